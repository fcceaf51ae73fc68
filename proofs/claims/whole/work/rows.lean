section
-- ===== PART A: goes FIRST, ahead of the names: the tables' words, and 'selects' of the private methods out of them =====
/-- a private method of a class that the tables say can be made, by its rows of tables_1 -/
def lw_okq (q : MethodName × Nat) : Prop := (q.1.cls ≠ "java/lang/invoke/MethodHandle" ∧ q.1.cls ≠ "java/lang/invoke/VarHandle") ∧ Cond.instantiable q.1.cls q.2 ∈ tables_1 ∧ Cond.privateMethod q.1 ∈ tables_1 ∧ Cond.instanceMethod q.1 ∈ tables_1
theorem lw_p0 : lw_okq (⟨"BountyDesk", "remember", "()V"⟩, 6) := ⟨⟨by decide +kernel, by decide +kernel⟩, List.mem_of_getElem? (i := 10) (by decide +kernel), List.mem_of_getElem? (i := 219) (by decide +kernel), List.mem_of_getElem? (i := 220) (by decide +kernel)⟩
theorem lw_p1 : lw_okq (⟨"BountyDesk", "huntersAheadOf", "(I)I"⟩, 6) := ⟨⟨by decide +kernel, by decide +kernel⟩, List.mem_of_getElem? (i := 10) (by decide +kernel), List.mem_of_getElem? (i := 477) (by decide +kernel), List.mem_of_getElem? (i := 478) (by decide +kernel)⟩
theorem lw_p2 : lw_okq (⟨"BountyDesk", "isAhead", "(II)Z"⟩, 6) := ⟨⟨by decide +kernel, by decide +kernel⟩, List.mem_of_getElem? (i := 10) (by decide +kernel), List.mem_of_getElem? (i := 481) (by decide +kernel), List.mem_of_getElem? (i := 482) (by decide +kernel)⟩
theorem lw_p3 : lw_okq (⟨"BountyDeskModel", "keeps", "()V"⟩, 5) := ⟨⟨by decide +kernel, by decide +kernel⟩, List.mem_of_getElem? (i := 489) (by decide +kernel), List.mem_of_getElem? (i := 522) (by decide +kernel), List.mem_of_getElem? (i := 523) (by decide +kernel)⟩
theorem lw_p4 : lw_okq (⟨"BountyDeskModel", "sets", "(IIII)I"⟩, 5) := ⟨⟨by decide +kernel, by decide +kernel⟩, List.mem_of_getElem? (i := 489) (by decide +kernel), List.mem_of_getElem? (i := 543) (by decide +kernel), List.mem_of_getElem? (i := 544) (by decide +kernel)⟩
theorem lw_p5 : lw_okq (⟨"BountyDeskModel", "isHunter", "(I)Z"⟩, 5) := ⟨⟨by decide +kernel, by decide +kernel⟩, List.mem_of_getElem? (i := 489) (by decide +kernel), List.mem_of_getElem? (i := 555) (by decide +kernel), List.mem_of_getElem? (i := 556) (by decide +kernel)⟩
theorem lw_p6 : lw_okq (⟨"BountyDeskModel", "isAsset", "(I)Z"⟩, 5) := ⟨⟨by decide +kernel, by decide +kernel⟩, List.mem_of_getElem? (i := 489) (by decide +kernel), List.mem_of_getElem? (i := 559) (by decide +kernel), List.mem_of_getElem? (i := 560) (by decide +kernel)⟩
theorem lw_p7 : lw_okq (⟨"BountyDeskModel", "isReport", "(I)Z"⟩, 5) := ⟨⟨by decide +kernel, by decide +kernel⟩, List.mem_of_getElem? (i := 489) (by decide +kernel), List.mem_of_getElem? (i := 570) (by decide +kernel), List.mem_of_getElem? (i := 571) (by decide +kernel)⟩
theorem lw_p8 : lw_okq (⟨"BountyDeskModel", "originalOf", "(I)I"⟩, 5) := ⟨⟨by decide +kernel, by decide +kernel⟩, List.mem_of_getElem? (i := 489) (by decide +kernel), List.mem_of_getElem? (i := 574) (by decide +kernel), List.mem_of_getElem? (i := 575) (by decide +kernel)⟩
theorem lw_p9 : lw_okq (⟨"BountyDeskModel", "of", "(II)I"⟩, 5) := ⟨⟨by decide +kernel, by decide +kernel⟩, List.mem_of_getElem? (i := 489) (by decide +kernel), List.mem_of_getElem? (i := 578) (by decide +kernel), List.mem_of_getElem? (i := 579) (by decide +kernel)⟩
theorem lw_p10 : lw_okq (⟨"BountyDeskModel", "price", "(I)I"⟩, 5) := ⟨⟨by decide +kernel, by decide +kernel⟩, List.mem_of_getElem? (i := 489) (by decide +kernel), List.mem_of_getElem? (i := 590) (by decide +kernel), List.mem_of_getElem? (i := 591) (by decide +kernel)⟩
theorem lw_p11 : lw_okq (⟨"BountyDeskModel", "priceBy", "(II)I"⟩, 5) := ⟨⟨by decide +kernel, by decide +kernel⟩, List.mem_of_getElem? (i := 489) (by decide +kernel), List.mem_of_getElem? (i := 594) (by decide +kernel), List.mem_of_getElem? (i := 595) (by decide +kernel)⟩
theorem lw_p12 : lw_okq (⟨"BountyDeskModel", "isOpen", "(I)Z"⟩, 5) := ⟨⟨by decide +kernel, by decide +kernel⟩, List.mem_of_getElem? (i := 489) (by decide +kernel), List.mem_of_getElem? (i := 602) (by decide +kernel), List.mem_of_getElem? (i := 603) (by decide +kernel)⟩
theorem lw_p13 : lw_okq (⟨"BountyDeskModel", "unfolds", "(I)I"⟩, 5) := ⟨⟨by decide +kernel, by decide +kernel⟩, List.mem_of_getElem? (i := 489) (by decide +kernel), List.mem_of_getElem? (i := 606) (by decide +kernel), List.mem_of_getElem? (i := 607) (by decide +kernel)⟩
theorem lw_p14 : lw_okq (⟨"BountyDeskModel", "isDue", "(I)Z"⟩, 5) := ⟨⟨by decide +kernel, by decide +kernel⟩, List.mem_of_getElem? (i := 489) (by decide +kernel), List.mem_of_getElem? (i := 614) (by decide +kernel), List.mem_of_getElem? (i := 615) (by decide +kernel)⟩
theorem lw_p15 : lw_okq (⟨"BountyDeskModel", "pays", "(I)I"⟩, 5) := ⟨⟨by decide +kernel, by decide +kernel⟩, List.mem_of_getElem? (i := 489) (by decide +kernel), List.mem_of_getElem? (i := 629) (by decide +kernel), List.mem_of_getElem? (i := 630) (by decide +kernel)⟩
def lw_privs_1 : List (MethodName × Nat) := [(⟨"BountyDesk", "remember", "()V"⟩, 6), (⟨"BountyDesk", "huntersAheadOf", "(I)I"⟩, 6), (⟨"BountyDesk", "isAhead", "(II)Z"⟩, 6), (⟨"BountyDeskModel", "keeps", "()V"⟩, 5), (⟨"BountyDeskModel", "sets", "(IIII)I"⟩, 5), (⟨"BountyDeskModel", "isHunter", "(I)Z"⟩, 5), (⟨"BountyDeskModel", "isAsset", "(I)Z"⟩, 5), (⟨"BountyDeskModel", "isReport", "(I)Z"⟩, 5), (⟨"BountyDeskModel", "originalOf", "(I)I"⟩, 5), (⟨"BountyDeskModel", "of", "(II)I"⟩, 5), (⟨"BountyDeskModel", "price", "(I)I"⟩, 5), (⟨"BountyDeskModel", "priceBy", "(II)I"⟩, 5), (⟨"BountyDeskModel", "isOpen", "(I)Z"⟩, 5), (⟨"BountyDeskModel", "unfolds", "(I)I"⟩, 5), (⟨"BountyDeskModel", "isDue", "(I)Z"⟩, 5), (⟨"BountyDeskModel", "pays", "(I)I"⟩, 5)]
theorem lw_r1 : ∀ q ∈ lw_privs_1, lw_okq q := List.forall_mem_cons.mpr ⟨lw_p0, List.forall_mem_cons.mpr ⟨lw_p1, List.forall_mem_cons.mpr ⟨lw_p2, List.forall_mem_cons.mpr ⟨lw_p3, List.forall_mem_cons.mpr ⟨lw_p4, List.forall_mem_cons.mpr ⟨lw_p5, List.forall_mem_cons.mpr ⟨lw_p6, List.forall_mem_cons.mpr ⟨lw_p7, List.forall_mem_cons.mpr ⟨lw_p8, List.forall_mem_cons.mpr ⟨lw_p9, List.forall_mem_cons.mpr ⟨lw_p10, List.forall_mem_cons.mpr ⟨lw_p11, List.forall_mem_cons.mpr ⟨lw_p12, List.forall_mem_cons.mpr ⟨lw_p13, List.forall_mem_cons.mpr ⟨lw_p14, List.forall_mem_cons.mpr ⟨lw_p15, fun _ h => absurd h List.not_mem_nil⟩⟩⟩⟩⟩⟩⟩⟩⟩⟩⟩⟩⟩⟩⟩⟩
theorem lw_p16 : lw_okq (⟨"BountyDeskModel", "gives", "(II)V"⟩, 5) := ⟨⟨by decide +kernel, by decide +kernel⟩, List.mem_of_getElem? (i := 489) (by decide +kernel), List.mem_of_getElem? (i := 636) (by decide +kernel), List.mem_of_getElem? (i := 637) (by decide +kernel)⟩
theorem lw_p17 : lw_okq (⟨"BountyDeskModel", "begins", "()I"⟩, 5) := ⟨⟨by decide +kernel, by decide +kernel⟩, List.mem_of_getElem? (i := 489) (by decide +kernel), List.mem_of_getElem? (i := 644) (by decide +kernel), List.mem_of_getElem? (i := 645) (by decide +kernel)⟩
theorem lw_p18 : lw_okq (⟨"BountyDeskModel", "hasReported", "(II)Z"⟩, 5) := ⟨⟨by decide +kernel, by decide +kernel⟩, List.mem_of_getElem? (i := 489) (by decide +kernel), List.mem_of_getElem? (i := 655) (by decide +kernel), List.mem_of_getElem? (i := 656) (by decide +kernel)⟩
theorem lw_p19 : lw_okq (⟨"BountyDeskModel", "givesBonuses", "(I)V"⟩, 5) := ⟨⟨by decide +kernel, by decide +kernel⟩, List.mem_of_getElem? (i := 489) (by decide +kernel), List.mem_of_getElem? (i := 662) (by decide +kernel), List.mem_of_getElem? (i := 663) (by decide +kernel)⟩
theorem lw_p20 : lw_okq (⟨"BountyDeskModel", "isNewAgain", "(I)V"⟩, 5) := ⟨⟨by decide +kernel, by decide +kernel⟩, List.mem_of_getElem? (i := 489) (by decide +kernel), List.mem_of_getElem? (i := 666) (by decide +kernel), List.mem_of_getElem? (i := 667) (by decide +kernel)⟩
theorem lw_p21 : lw_okq (⟨"BountyDeskModel", "pools", "()I"⟩, 5) := ⟨⟨by decide +kernel, by decide +kernel⟩, List.mem_of_getElem? (i := 489) (by decide +kernel), List.mem_of_getElem? (i := 674) (by decide +kernel), List.mem_of_getElem? (i := 675) (by decide +kernel)⟩
theorem lw_p22 : lw_okq (⟨"BountyDeskModel", "openOnes", "()I"⟩, 5) := ⟨⟨by decide +kernel, by decide +kernel⟩, List.mem_of_getElem? (i := 489) (by decide +kernel), List.mem_of_getElem? (i := 678) (by decide +kernel), List.mem_of_getElem? (i := 679) (by decide +kernel)⟩
theorem lw_p23 : lw_okq (⟨"BountyDeskModel", "inState", "(I)I"⟩, 5) := ⟨⟨by decide +kernel, by decide +kernel⟩, List.mem_of_getElem? (i := 489) (by decide +kernel), List.mem_of_getElem? (i := 682) (by decide +kernel), List.mem_of_getElem? (i := 683) (by decide +kernel)⟩
theorem lw_p24 : lw_okq (⟨"BountyDeskModel", "reportsFor", "(I)I"⟩, 5) := ⟨⟨by decide +kernel, by decide +kernel⟩, List.mem_of_getElem? (i := 489) (by decide +kernel), List.mem_of_getElem? (i := 690) (by decide +kernel), List.mem_of_getElem? (i := 691) (by decide +kernel)⟩
theorem lw_p25 : lw_okq (⟨"BountyDeskModel", "pricesFor", "(I)I"⟩, 5) := ⟨⟨by decide +kernel, by decide +kernel⟩, List.mem_of_getElem? (i := 489) (by decide +kernel), List.mem_of_getElem? (i := 694) (by decide +kernel), List.mem_of_getElem? (i := 695) (by decide +kernel)⟩
theorem lw_p26 : lw_okq (⟨"BountyDeskModel", "reportsBy", "(I)I"⟩, 5) := ⟨⟨by decide +kernel, by decide +kernel⟩, List.mem_of_getElem? (i := 489) (by decide +kernel), List.mem_of_getElem? (i := 702) (by decide +kernel), List.mem_of_getElem? (i := 703) (by decide +kernel)⟩
theorem lw_p27 : lw_okq (⟨"BountyDeskModel", "standing", "(I)I"⟩, 5) := ⟨⟨by decide +kernel, by decide +kernel⟩, List.mem_of_getElem? (i := 489) (by decide +kernel), List.mem_of_getElem? (i := 706) (by decide +kernel), List.mem_of_getElem? (i := 707) (by decide +kernel)⟩
theorem lw_p28 : lw_okq (⟨"BountyDeskModel", "foldedInto", "(I)I"⟩, 5) := ⟨⟨by decide +kernel, by decide +kernel⟩, List.mem_of_getElem? (i := 489) (by decide +kernel), List.mem_of_getElem? (i := 714) (by decide +kernel), List.mem_of_getElem? (i := 715) (by decide +kernel)⟩
theorem lw_p29 : lw_okq (⟨"BountyDeskModel", "isAhead", "(II)Z"⟩, 5) := ⟨⟨by decide +kernel, by decide +kernel⟩, List.mem_of_getElem? (i := 489) (by decide +kernel), List.mem_of_getElem? (i := 726) (by decide +kernel), List.mem_of_getElem? (i := 727) (by decide +kernel)⟩
def lw_privs_2 : List (MethodName × Nat) := [(⟨"BountyDeskModel", "gives", "(II)V"⟩, 5), (⟨"BountyDeskModel", "begins", "()I"⟩, 5), (⟨"BountyDeskModel", "hasReported", "(II)Z"⟩, 5), (⟨"BountyDeskModel", "givesBonuses", "(I)V"⟩, 5), (⟨"BountyDeskModel", "isNewAgain", "(I)V"⟩, 5), (⟨"BountyDeskModel", "pools", "()I"⟩, 5), (⟨"BountyDeskModel", "openOnes", "()I"⟩, 5), (⟨"BountyDeskModel", "inState", "(I)I"⟩, 5), (⟨"BountyDeskModel", "reportsFor", "(I)I"⟩, 5), (⟨"BountyDeskModel", "pricesFor", "(I)I"⟩, 5), (⟨"BountyDeskModel", "reportsBy", "(I)I"⟩, 5), (⟨"BountyDeskModel", "standing", "(I)I"⟩, 5), (⟨"BountyDeskModel", "foldedInto", "(I)I"⟩, 5), (⟨"BountyDeskModel", "isAhead", "(II)Z"⟩, 5)]
theorem lw_r2 : ∀ q ∈ lw_privs_2, lw_okq q := List.forall_mem_cons.mpr ⟨lw_p16, List.forall_mem_cons.mpr ⟨lw_p17, List.forall_mem_cons.mpr ⟨lw_p18, List.forall_mem_cons.mpr ⟨lw_p19, List.forall_mem_cons.mpr ⟨lw_p20, List.forall_mem_cons.mpr ⟨lw_p21, List.forall_mem_cons.mpr ⟨lw_p22, List.forall_mem_cons.mpr ⟨lw_p23, List.forall_mem_cons.mpr ⟨lw_p24, List.forall_mem_cons.mpr ⟨lw_p25, List.forall_mem_cons.mpr ⟨lw_p26, List.forall_mem_cons.mpr ⟨lw_p27, List.forall_mem_cons.mpr ⟨lw_p28, List.forall_mem_cons.mpr ⟨lw_p29, fun _ h => absurd h List.not_mem_nil⟩⟩⟩⟩⟩⟩⟩⟩⟩⟩⟩⟩⟩⟩
def lw_privs : List (MethodName × Nat) := lw_privs_1 ++ (lw_privs_2)
def lw_tbl : List Cond := k2_sels lw_privs ++ tables_1
theorem lw_privs_ok : ∀ q ∈ lw_privs, lw_okq q := by
  show ∀ q ∈ lw_privs_1 ++ (lw_privs_2), lw_okq q
  exact List.forall_mem_append.mpr ⟨lw_r1, lw_r2⟩
-- ===== end of PART A; then your names; then what follows =====
end
section
/-! A PURE MACHINE: bytecode run over a flat memory whose cells are numbered from 0; what it answers, the real machine answers. -/
abbrev pm_M : Type := MethodName × Nat × ByteArray × Nat × Option FieldType × Nat × Nat
def pm_y (m : pm_M) : MethodName := m.1
def pm_n (m : pm_M) : Nat := m.2.1
def pm_b (m : pm_M) : ByteArray := m.2.2.1
def pm_l (m : pm_M) : Nat := m.2.2.2.1
def pm_r (m : pm_M) : Option FieldType := m.2.2.2.2.1
def pm_f (m : pm_M) : Nat := m.2.2.2.2.2.1
def pm_o (m : pm_M) : Nat := m.2.2.2.2.2.2
/-- a memory: its cells, its slots, each cell's kind (0 nothing, 1 ints, 2c+2 an object of number c, 2c+3 an array of those) and length, references, numbers -/
abbrev pm_H : Type := Nat × Nat × (Nat → Nat × Nat) × (Nat → Nat → Option Nat) × (Nat → Nat → Int32)
abbrev pm_L : Type := List (Option Value)
/-- tables: fields; calls (0 by object, 1 static, 2 a constructor, 3 the object's own, 4 and 5 the greater and the lesser of two ints); constants; new; new arrays; a field's sort (0 int, 1 boolean, 2 a final reference); how many fields -/
abbrev pm_T : Type := (Nat → Nat → Option (Nat × Nat)) × (Nat → Nat → Option (Nat × pm_M × Nat)) × (Nat → Nat → Option Int32) × (Nat → Nat → Option Nat) × (Nat → Nat → Option Nat) × (Nat → Nat → Nat) × (Nat → Nat)
def pm_tf (τ : pm_T) : Nat → Nat → Option (Nat × Nat) := τ.1
def pm_tc (τ : pm_T) : Nat → Nat → Option (Nat × pm_M × Nat) := τ.2.1
def pm_tk (τ : pm_T) : Nat → Nat → Option Int32 := τ.2.2.1
def pm_tn (τ : pm_T) : Nat → Nat → Option Nat := τ.2.2.2.1
def pm_ta (τ : pm_T) : Nat → Nat → Option Nat := τ.2.2.2.2.1
def pm_ts (τ : pm_T) : Nat → Nat → Nat := τ.2.2.2.2.2.1
def pm_tl (τ : pm_T) : Nat → Nat := τ.2.2.2.2.2.2
def pm_u2 {α : Type} (f : Nat → Nat → α) (k j : Nat) (v : α) : Nat → Nat → α := fun a b => if a = k ∧ b = j then v else f a b
def pm_k (M : pm_H) (k : Nat) : Nat × Nat := M.2.2.1 k
def pm_rs (M : pm_H) : Nat → Nat → Option Nat := M.2.2.2.1
def pm_is (M : pm_H) : Nat → Nat → Int32 := M.2.2.2.2
def pm_setI (M : pm_H) (k j : Nat) (v : Int32) : pm_H := (M.1, M.2.1, M.2.2.1, M.2.2.2.1, pm_u2 M.2.2.2.2 k j v)
def pm_setR (M : pm_H) (k j : Nat) (o : Option Nat) : pm_H := (M.1, M.2.1, M.2.2.1, pm_u2 M.2.2.2.1 k j o, M.2.2.2.2)
def pm_new (M : pm_H) (kind len : Nat) : pm_H := (M.1 + 1, M.2.1 + len, fun k => if k = M.1 then (kind, len) else M.2.2.1 k, fun k j => if k = M.1 then none else M.2.2.2.1 k j, fun k j => if k = M.1 then 0 else M.2.2.2.2 k j)
def pm_rv (r : Option Nat) : Value := match r with
  | none => .null
  | some o => .ref o
def pm_cmp (c : Jvm.ClassFile.Cond) (x y : Int32) : Bool := match c with
  | .eq => decide (x = y)
  | .ne => decide (¬ x = y)
  | .lt => decide (x < y)
  | .ge => decide (y ≤ x)
  | .gt => decide (y < x)
  | .le => decide (x ≤ y)
/-- the length that an instruction has -/
def pm_ln (i : Instr) (len : Nat) : Bool := match i with
  | .iconst _ | .iload_n _ | .aload_n _ | .istore_n _ | .astore_n _ | .iadd | .isub | .imul | .idiv | .irem | .iand | .ior | .ishl | .ishr | .iushr | .dup | .dup2 | .pop | .iaload | .iastore | .aaload | .aastore | .arraylength | .ireturn | .return_ => len == 1
  | .bipush _ | .ldc _ | .iload _ | .aload _ | .istore _ | .astore _ | .newarray _ => len == 2
  | .sipush _ | .ldc_w _ | .iinc _ _ | .goto _ | .ifCond _ _ | .if_icmp _ _ | .getfield _ | .putfield _ | .new _ | .anewarray _ | .invokevirtual _ | .invokestatic _ | .invokespecial _ => len == 3
  | .tableswitch _ _ _ _ => true
  | _ => false
def pm_jmp (pc : Nat) (off : Int) : Option Nat := if 0 ≤ (pc : Int) + off then some ((pc : Int) + off).toNat else none
def pm_ldi (ls : pm_L) (k : Nat) : Option Int32 := match ls[k]? with
  | some (some (.int x)) => some x
  | _ => none
def pm_lda (ls : pm_L) (k : Nat) : Option Value := match ls[k]? with
  | some (some (.ref a)) => some (.ref a)
  | some (some (.long a)) => some (.long a)
  | _ => none
def pm_sta (ls : pm_L) (k : Nat) (st : List Value) : Option (pm_L × List Value) := match st with
  | .ref a :: rest => if k < ls.length then some (ls.set k (some (.ref a)), rest) else none
  | _ => none
def pm_sti (ls : pm_L) (k : Nat) (st : List Value) : Option (pm_L × List Value) := match st with
  | .int x :: rest => if k < ls.length then some (ls.set k (some (.int x)), rest) else none
  | _ => none
def pm_bin (f : Int32 → Int32 → Int32) (st : List Value) : Option (List Value) := match st with
  | .int y :: .int x :: rest => some (.int (f x y) :: rest)
  | _ => none
/-- one instruction that is no call and no return -/
def pm_nx (τ : pm_T) (m : pm_M) (xl : Nat) (xs : Nat → Int32) (pc : Nat) (ls : pm_L) (st : List Value) (M : pm_H) (i : Instr) : Option (Nat × pm_L × List Value × pm_H) :=
  match i with
  | .iconst n => some (pc + 1, ls, .int (Int32.ofInt n) :: st, M)
  | .bipush n => some (pc + 2, ls, .int (Int8.ofInt n).toInt32 :: st, M)
  | .sipush n => some (pc + 3, ls, .int (Int16.ofInt n).toInt32 :: st, M)
  | .ldc x => (pm_tk τ (pm_n m) x).bind fun v => some (pc + 2, ls, .int v :: st, M)
  | .ldc_w x => (pm_tk τ (pm_n m) x).bind fun v => some (pc + 3, ls, .int v :: st, M)
  | .iload_n k => (pm_ldi ls k.val).bind fun x => some (pc + 1, ls, .int x :: st, M)
  | .iload k => (pm_ldi ls k).bind fun x => some (pc + 2, ls, .int x :: st, M)
  | .aload_n k => (pm_lda ls k.val).bind fun v => some (pc + 1, ls, v :: st, M)
  | .aload k => (pm_lda ls k).bind fun v => some (pc + 2, ls, v :: st, M)
  | .istore_n k => (pm_sti ls k.val st).bind fun q => some (pc + 1, q.1, q.2, M)
  | .istore k => (pm_sti ls k st).bind fun q => some (pc + 2, q.1, q.2, M)
  | .astore_n k => (pm_sta ls k.val st).bind fun q => some (pc + 1, q.1, q.2, M)
  | .astore k => (pm_sta ls k st).bind fun q => some (pc + 2, q.1, q.2, M)
  | .iinc k n => (pm_ldi ls k).bind fun x => if k < ls.length then some (pc + 3, ls.set k (some (.int (x + Int32.ofInt n))), st, M) else none
  | .iadd => (pm_bin (fun x y => x + y) st).bind fun q => some (pc + 1, ls, q, M)
  | .isub => (pm_bin (fun x y => x - y) st).bind fun q => some (pc + 1, ls, q, M)
  | .imul => (pm_bin (fun x y => x * y) st).bind fun q => some (pc + 1, ls, q, M)
  | .iand => (pm_bin (fun x y => x &&& y) st).bind fun q => some (pc + 1, ls, q, M)
  | .ior => (pm_bin (fun x y => x ||| y) st).bind fun q => some (pc + 1, ls, q, M)
  | .ishl => (pm_bin (fun x y => x <<< (y &&& 31)) st).bind fun q => some (pc + 1, ls, q, M)
  | .ishr => (pm_bin (fun x y => x >>> (y &&& 31)) st).bind fun q => some (pc + 1, ls, q, M)
  | .iushr => (pm_bin (fun x y => (x.toUInt32 >>> (y.toUInt32 &&& Int32.toUInt32 31)).toInt32) st).bind fun q => some (pc + 1, ls, q, M)
  | .idiv => match st with
    | .int y :: .int x :: rest => if y = 0 then none else some (pc + 1, ls, .int (x / y) :: rest, M)
    | _ => none
  | .irem => match st with
    | .int y :: .int x :: rest => if y = 0 then none else some (pc + 1, ls, .int (x - x / y * y) :: rest, M)
    | _ => none
  | .dup => match st with
    | v :: rest => some (pc + 1, ls, v :: v :: rest, M)
    | _ => none
  | .dup2 => match st with
    | v :: w :: rest => some (pc + 1, ls, v :: w :: v :: w :: rest, M)
    | _ => none
  | .pop => match st with
    | _ :: rest => some (pc + 1, ls, rest, M)
    | _ => none
  | .goto off => (pm_jmp pc off).bind fun t => some (t, ls, st, M)
  | .ifCond c off => match st with
    | .int x :: rest => (pm_jmp pc off).bind fun t => some (if pm_cmp c x 0 = true then t else pc + 3, ls, rest, M)
    | _ => none
  | .if_icmp c off => match st with
    | .int y :: .int x :: rest => (pm_jmp pc off).bind fun t => some (if pm_cmp c x y = true then t else pc + 3, ls, rest, M)
    | _ => none
  | .tableswitch dflt lo hi offs => match st with
    | .int x :: rest => (if x.toInt < lo ∨ hi < x.toInt then some dflt else offs[(x.toInt - lo).toNat]?).bind fun off => (pm_jmp pc off).bind fun t => some (t, ls, rest, M)
    | _ => none
  | .getfield x => (pm_tf τ (pm_n m) x).bind fun f => match st with
    | .ref o :: rest => if (pm_k M o).1 = 2 * f.1 + 2 then some (pc + 3, ls, (if pm_ts τ f.1 f.2 = 2 then pm_rv (pm_rs M o f.2) else .int (pm_is M o f.2)) :: rest, M) else none
    | _ => none
  | .putfield x => (pm_tf τ (pm_n m) x).bind fun f => match st with
    | .int v :: .ref o :: rest => if (pm_k M o).1 = 2 * f.1 + 2 ∧ (pm_ts τ f.1 f.2 = 0 ∨ (pm_ts τ f.1 f.2 = 1 ∧ (v = 0 ∨ v = 1))) then some (pc + 3, ls, rest, pm_setI M o f.2 v) else none
    | .ref v :: .ref o :: rest => if (pm_k M o).1 = 2 * f.1 + 2 ∧ pm_ts τ f.1 f.2 = 2 ∧ (pm_y m).name = "<init>" ∧ pm_n m = f.1 then some (pc + 3, ls, rest, pm_setR M o f.2 (some v)) else none
    | _ => none
  | .iaload => match st with
    | .int i :: .ref o :: rest => if (pm_k M o).1 = 1 ∧ ¬ (i < 0 ∨ (pm_k M o).2 ≤ i.toNatClampNeg) then some (pc + 1, ls, .int (pm_is M o i.toNatClampNeg) :: rest, M) else none
    | .int i :: .long _ :: rest => if i < 0 ∨ xl ≤ i.toNatClampNeg then none else some (pc + 1, ls, .int (xs i.toNatClampNeg) :: rest, M)
    | _ => none
  | .iastore => match st with
    | .int v :: .int i :: .ref o :: rest => if (pm_k M o).1 = 1 ∧ ¬ (i < 0 ∨ (pm_k M o).2 ≤ i.toNatClampNeg) then some (pc + 1, ls, rest, pm_setI M o i.toNatClampNeg v) else none
    | _ => none
  | .aaload => match st with
    | .int i :: .ref o :: rest => if 3 ≤ (pm_k M o).1 ∧ (pm_k M o).1 % 2 = 1 ∧ ¬ (i < 0 ∨ (pm_k M o).2 ≤ i.toNatClampNeg) then some (pc + 1, ls, pm_rv (pm_rs M o i.toNatClampNeg) :: rest, M) else none
    | _ => none
  | .aastore => match st with
    | .ref v :: .int i :: .ref o :: rest => if 3 ≤ (pm_k M o).1 ∧ (pm_k M o).1 % 2 = 1 ∧ ¬ (i < 0 ∨ (pm_k M o).2 ≤ i.toNatClampNeg) ∧ (pm_k M v).1 + 1 = (pm_k M o).1 then some (pc + 1, ls, rest, pm_setR M o i.toNatClampNeg (some v)) else none
    | _ => none
  | .arraylength => match st with
    | .long _ :: rest => some (pc + 1, ls, .int (Int32.ofNat xl) :: rest, M)
    | .ref o :: rest => if (pm_k M o).1 = 1 then some (pc + 1, ls, .int (Int32.ofNat (pm_k M o).2) :: rest, M) else none
    | _ => none
  | .new x => (pm_tn τ (pm_n m) x).bind fun c => some (pc + 3, ls, .ref M.1 :: st, pm_new M (2 * c + 2) (pm_tl τ c))
  | .newarray t => match st with
    | .int n :: rest => if t = .int ∧ ¬ n < 0 ∧ n.toNatClampNeg ≤ 100000 then some (pc + 2, ls, .ref M.1 :: rest, pm_new M 1 n.toNatClampNeg) else none
    | _ => none
  | .anewarray x => (pm_ta τ (pm_n m) x).bind fun c => match st with
    | .int n :: rest => if ¬ n < 0 ∧ n.toNatClampNeg ≤ 100000 then some (pc + 3, ls, .ref M.1 :: rest, pm_new M (2 * c + 3) n.toNatClampNeg) else none
    | _ => none
  | .invokespecial x => (pm_tc τ (pm_n m) x).bind fun q => match st with
    | .ref _ :: rest => if q.1 = 3 ∧ 1 ≤ pm_f m ∧ rest.length + 12 ≤ pm_o m then some (pc + 3, ls, rest, M) else none
    | _ => none
  | .invokestatic x => (pm_tc τ (pm_n m) x).bind fun q => match st with
    | .int b :: .int a :: rest => if q.1 = 4 ∧ 1 ≤ pm_f m ∧ rest.length + 13 ≤ pm_o m then some (pc + 3, ls, .int (if a < b then b else a) :: rest, M) else if q.1 = 5 ∧ 1 ≤ pm_f m ∧ rest.length + 13 ≤ pm_o m then some (pc + 3, ls, .int (if b < a then b else a) :: rest, M) else none
    | _ => none
  | _ => none
/-- a call: who, with what, over what -/
def pm_cl (τ : pm_T) (m : pm_M) (st : List Value) (M : pm_H) (i : Instr) : Option (pm_M × List Value × List Value) :=
  match i with
  | .invokevirtual x => (pm_tc τ (pm_n m) x).bind fun q => match st.drop q.2.2 with
    | .ref o :: rest => if q.1 = 0 ∧ (pm_k M o).1 = 2 * pm_n q.2.1 + 2 ∧ q.2.2 ≤ st.length ∧ q.2.2 + 1 ≤ pm_l q.2.1 ∧ rest.length ≤ 8 ∧ pm_f q.2.1 + 1 ≤ pm_f m ∧ 8 + (pm_l q.2.1 + 11) + pm_o q.2.1 ≤ pm_o m then some (q.2.1, .ref o :: (st.take q.2.2).reverse, rest) else none
    | _ => none
  | .invokestatic x => (pm_tc τ (pm_n m) x).bind fun q => if q.1 = 1 ∧ q.2.2 ≤ st.length ∧ q.2.2 ≤ pm_l q.2.1 ∧ (st.drop q.2.2).length ≤ 8 ∧ pm_f q.2.1 + 1 ≤ pm_f m ∧ 8 + (pm_l q.2.1 + 11) + pm_o q.2.1 ≤ pm_o m then some (q.2.1, (st.take q.2.2).reverse, st.drop q.2.2) else none
  | .invokespecial x => (pm_tc τ (pm_n m) x).bind fun q => match st.drop q.2.2 with
    | .ref o :: rest => if q.1 = 2 ∧ q.2.2 ≤ st.length ∧ q.2.2 + 1 ≤ pm_l q.2.1 ∧ rest.length ≤ 8 ∧ pm_f q.2.1 + 1 ≤ pm_f m ∧ 8 + (pm_l q.2.1 + 11) + pm_o q.2.1 ≤ pm_o m then some (q.2.1, .ref o :: (st.take q.2.2).reverse, rest) else none
    | _ => none
  | _ => none
/-- a return -/
def pm_rt (m : pm_M) (st : List Value) (i : Instr) : Option (Option Value) :=
  match i with
  | .ireturn => match st with
    | [.int v] => if pm_r m = some .int ∨ (pm_r m = some .boolean ∧ (v = 0 ∨ v = 1)) then some (some (.int v)) else none
    | _ => none
  | .return_ => match st with
    | [] => if pm_r m = none then some none else none
    | _ => none
  | _ => none
def pm_en (m : pm_M) (vs : List Value) : pm_L := vs.map some ++ List.replicate (pm_l m - vs.length) none
def pm_run (τ : pm_T) (xl : Nat) (xs : Nat → Int32) : Nat → pm_M → Nat → pm_L → List Value → pm_H → Option (Option Value × pm_H)
  | 0, _, _, _, _, _ => none
  | n + 1, m, pc, ls, st, M => match decode (pm_b m) pc with
    | .error _ => none
    | .ok (i, len) => if pm_ln i len = false then none else match pm_cl τ m st M i with
      | some (m', vs, rest) => match pm_run τ xl xs n m' 0 (pm_en m' vs) [] M with
        | none => none
        | some (r, M') => pm_run τ xl xs n m (pc + 3) ls (r.toList ++ rest) M'
      | none => match pm_rt m st i with
        | some r => some (r, M)
        | none => match pm_nx τ m xl xs pc ls st M i with
          | none => none
          | some (pc', ls', st', M') => pm_run τ xl xs n m pc' ls' st' M'
end
section
/-! WHAT THE PURE MACHINE ANSWERS IN THE END, whatever the number of its steps -/
theorem pm_run_more (τ : pm_T) (xl : Nat) (xs : Nat → Int32) (n : Nat) : ∀ (m : pm_M) (pc : Nat) (ls : pm_L) (st : List Value) (M : pm_H) (r : Option Value × pm_H), pm_run τ xl xs n m pc ls st M = some r → pm_run τ xl xs (n + 1) m pc ls st M = some r := by
  induction n with
  | zero => intro m pc ls st M r h; simp [pm_run] at h
  | succ n ih =>
    intro m pc ls st M r h
    rw [pm_run] at h
    rw [pm_run]
    cases hd : decode (pm_b m) pc with
    | error e => rw [hd] at h; exact h
    | ok q =>
      obtain ⟨i, len⟩ := q
      rw [hd] at h
      dsimp only at h ⊢
      split at h
      · cases h
      · rename_i hl
        rw [if_neg hl]
        cases hc : pm_cl τ m st M i with
        | some q =>
          obtain ⟨m', vs, rest⟩ := q
          rw [hc] at h
          dsimp only at h ⊢
          cases hr : pm_run τ xl xs n m' 0 (pm_en m' vs) [] M with
          | none => rw [hr] at h; cases h
          | some w =>
            obtain ⟨r', M'⟩ := w
            rw [hr] at h
            rw [ih _ _ _ _ _ _ hr]
            exact ih _ _ _ _ _ _ h
        | none =>
          rw [hc] at h
          dsimp only at h ⊢
          cases ht : pm_rt m st i with
          | some r' => rw [ht] at h; exact h
          | none =>
            rw [ht] at h
            dsimp only at h ⊢
            cases hx : pm_nx τ m xl xs pc ls st M i with
            | none => rw [hx] at h; cases h
            | some w =>
              obtain ⟨pc', ls', st', M'⟩ := w
              rw [hx] at h
              exact ih _ _ _ _ _ _ h
theorem pm_run_le {τ : pm_T} {xl : Nat} {xs : Nat → Int32} {n k : Nat} (hk : n ≤ k) {m : pm_M} {pc : Nat} {ls : pm_L} {st : List Value} {M : pm_H} {r : Option Value × pm_H} (h : pm_run τ xl xs n m pc ls st M = some r) : pm_run τ xl xs k m pc ls st M = some r := by
  induction hk with
  | refl => exact h
  | step _ ih => exact pm_run_more _ _ _ _ _ _ _ _ _ _ ih
noncomputable def pm_ev (τ : pm_T) (xl : Nat) (xs : Nat → Int32) (m : pm_M) (pc : Nat) (ls : pm_L) (st : List Value) (M : pm_H) : Option (Option Value × pm_H) :=
  @dite _ (∃ r n, pm_run τ xl xs n m pc ls st M = some r) (Classical.propDecidable _) (fun h => some (Classical.choose h)) (fun _ => none)
section PMEV
variable {τ : pm_T} {xl : Nat} {xs : Nat → Int32} {m : pm_M} {pc : Nat} {ls : pm_L} {st : List Value} {M : pm_H}
theorem pm_ev_iff {r : Option Value × pm_H} : pm_ev τ xl xs m pc ls st M = some r ↔ ∃ n, pm_run τ xl xs n m pc ls st M = some r := by
  unfold pm_ev
  constructor
  · intro h
    split at h
    · rename_i hq
      have := Classical.choose_spec hq
      rw [Option.some.inj h] at this
      exact this
    · cases h
  · rintro ⟨n, h⟩
    have hq : ∃ r n, pm_run τ xl xs n m pc ls st M = some r := ⟨r, n, h⟩
    rw [dif_pos hq]
    obtain ⟨n', h'⟩ := Classical.choose_spec hq
    have h1 := pm_run_le (Nat.le_max_left n n') h
    have h2 := pm_run_le (Nat.le_max_right n n') h'
    rw [h1] at h2
    rw [← Option.some.inj h2]
theorem pm_ev_ext {a b : Option (Option Value × pm_H)} (h : ∀ r, a = some r ↔ b = some r) : a = b := by
  cases a with
  | none =>
    cases b with
    | none => rfl
    | some y => exact (h y).mpr rfl
  | some x => exact ((h x).mp rfl).symm
variable {i : Instr} {len : Nat}
theorem pm_ev_nx {pc' : Nat} {ls' : pm_L} {st' : List Value} {M' : pm_H} (hd : decode (pm_b m) pc = .ok (i, len)) (hl : pm_ln i len = true) (hc : pm_cl τ m st M i = none) (ht : pm_rt m st i = none) (hx : pm_nx τ m xl xs pc ls st M i = some (pc', ls', st', M')) : pm_ev τ xl xs m pc ls st M = pm_ev τ xl xs m pc' ls' st' M' := by
  have key : ∀ n, pm_run τ xl xs (n + 1) m pc ls st M = pm_run τ xl xs n m pc' ls' st' M' := by
    intro n
    rw [pm_run, hd]
    dsimp only
    rw [if_neg (by rw [hl]; decide), hc]
    dsimp only
    rw [ht]
    dsimp only
    rw [hx]
  refine pm_ev_ext fun r => ?_
  rw [pm_ev_iff, pm_ev_iff]
  constructor
  · rintro ⟨n, h⟩
    cases n with
    | zero => simp [pm_run] at h
    | succ n => exact ⟨n, (key n).symm.trans h⟩
  · rintro ⟨n, h⟩
    exact ⟨n + 1, (key n).trans h⟩
theorem pm_ev_rt {r : Option Value} (hd : decode (pm_b m) pc = .ok (i, len)) (hl : pm_ln i len = true) (hc : pm_cl τ m st M i = none) (ht : pm_rt m st i = some r) : pm_ev τ xl xs m pc ls st M = some (r, M) := by
  rw [pm_ev_iff]
  refine ⟨1, ?_⟩
  rw [pm_run, hd]
  dsimp only
  rw [if_neg (by rw [hl]; decide), hc]
  dsimp only
  rw [ht]
theorem pm_ev_cl {m' : pm_M} {vs rest : List Value} (hd : decode (pm_b m) pc = .ok (i, len)) (hl : pm_ln i len = true) (hc : pm_cl τ m st M i = some (m', vs, rest)) : pm_ev τ xl xs m pc ls st M = (pm_ev τ xl xs m' 0 (pm_en m' vs) [] M).bind fun q => pm_ev τ xl xs m (pc + 3) ls (q.1.toList ++ rest) q.2 := by
  have key : ∀ n, pm_run τ xl xs (n + 1) m pc ls st M = (pm_run τ xl xs n m' 0 (pm_en m' vs) [] M).bind fun q => pm_run τ xl xs n m (pc + 3) ls (q.1.toList ++ rest) q.2 := by
    intro n
    rw [pm_run, hd]
    dsimp only
    rw [if_neg (by rw [hl]; decide), hc]
    dsimp only
    cases pm_run τ xl xs n m' 0 (pm_en m' vs) [] M <;> rfl
  refine pm_ev_ext fun r => ?_
  rw [pm_ev_iff, Option.bind_eq_some_iff]
  constructor
  · rintro ⟨n, h⟩
    cases n with
    | zero => simp [pm_run] at h
    | succ n =>
      rw [key n, Option.bind_eq_some_iff] at h
      obtain ⟨q, h1, h2⟩ := h
      exact ⟨q, pm_ev_iff.mpr ⟨n, h1⟩, pm_ev_iff.mpr ⟨n, h2⟩⟩
  · rintro ⟨q, h1, h2⟩
    obtain ⟨n1, h1⟩ := pm_ev_iff.mp h1
    obtain ⟨n2, h2⟩ := pm_ev_iff.mp h2
    refine ⟨max n1 n2 + 1, ?_⟩
    rw [key, Option.bind_eq_some_iff]
    exact ⟨q, pm_run_le (Nat.le_max_left _ _) h1, pm_run_le (Nat.le_max_right _ _) h2⟩
/-! instruction by instruction -/
theorem ev_iconst {n : Int} {v : Int32} (hv : Int32.ofInt n = v) (hd : decode (pm_b m) pc = .ok (.iconst n, 1)) : pm_ev τ xl xs m pc ls st M = pm_ev τ xl xs m (pc + 1) ls (.int v :: st) M := by subst hv; exact pm_ev_nx hd rfl rfl rfl rfl
theorem ev_bipush {n : Int} {v : Int32} (hv : (Int8.ofInt n).toInt32 = v) (hd : decode (pm_b m) pc = .ok (.bipush n, 2)) : pm_ev τ xl xs m pc ls st M = pm_ev τ xl xs m (pc + 2) ls (.int v :: st) M := by subst hv; exact pm_ev_nx hd rfl rfl rfl rfl
theorem ev_sipush {n : Int} {v : Int32} (hv : (Int16.ofInt n).toInt32 = v) (hd : decode (pm_b m) pc = .ok (.sipush n, 3)) : pm_ev τ xl xs m pc ls st M = pm_ev τ xl xs m (pc + 3) ls (.int v :: st) M := by subst hv; exact pm_ev_nx hd rfl rfl rfl rfl
theorem ev_ldc {x : Nat} {v : Int32} (hk : pm_tk τ (pm_n m) x = some v) (hd : decode (pm_b m) pc = .ok (.ldc x, 2)) : pm_ev τ xl xs m pc ls st M = pm_ev τ xl xs m (pc + 2) ls (.int v :: st) M := pm_ev_nx hd rfl rfl rfl (by simp only [pm_nx, hk, Option.bind_some])
theorem ev_ldc_w {x : Nat} {v : Int32} (hk : pm_tk τ (pm_n m) x = some v) (hd : decode (pm_b m) pc = .ok (.ldc_w x, 3)) : pm_ev τ xl xs m pc ls st M = pm_ev τ xl xs m (pc + 3) ls (.int v :: st) M := pm_ev_nx hd rfl rfl rfl (by simp only [pm_nx, hk, Option.bind_some])
theorem ev_iload_n {k : Fin 4} {x : Int32} (hk : pm_ldi ls k.val = some x) (hd : decode (pm_b m) pc = .ok (.iload_n k, 1)) : pm_ev τ xl xs m pc ls st M = pm_ev τ xl xs m (pc + 1) ls (.int x :: st) M := pm_ev_nx hd rfl rfl rfl (by simp only [pm_nx, hk, Option.bind_some])
theorem ev_iload {k : Nat} {x : Int32} (hk : pm_ldi ls k = some x) (hd : decode (pm_b m) pc = .ok (.iload k, 2)) : pm_ev τ xl xs m pc ls st M = pm_ev τ xl xs m (pc + 2) ls (.int x :: st) M := pm_ev_nx hd rfl rfl rfl (by simp only [pm_nx, hk, Option.bind_some])
theorem ev_aload_n {k : Fin 4} {v : Value} (hk : pm_lda ls k.val = some v) (hd : decode (pm_b m) pc = .ok (.aload_n k, 1)) : pm_ev τ xl xs m pc ls st M = pm_ev τ xl xs m (pc + 1) ls (v :: st) M := pm_ev_nx hd rfl rfl rfl (by simp only [pm_nx, hk, Option.bind_some])
theorem ev_aload {k : Nat} {v : Value} (hk : pm_lda ls k = some v) (hd : decode (pm_b m) pc = .ok (.aload k, 2)) : pm_ev τ xl xs m pc ls st M = pm_ev τ xl xs m (pc + 2) ls (v :: st) M := pm_ev_nx hd rfl rfl rfl (by simp only [pm_nx, hk, Option.bind_some])
theorem ev_istore_n {k : Fin 4} {x : Int32} {ls' : pm_L} (hk : pm_sti ls k.val (.int x :: st) = some (ls', st)) (hd : decode (pm_b m) pc = .ok (.istore_n k, 1)) : pm_ev τ xl xs m pc ls (.int x :: st) M = pm_ev τ xl xs m (pc + 1) ls' st M := pm_ev_nx hd rfl rfl rfl (by simp only [pm_nx, hk, Option.bind_some])
theorem ev_istore {k : Nat} {x : Int32} {ls' : pm_L} (hk : pm_sti ls k (.int x :: st) = some (ls', st)) (hd : decode (pm_b m) pc = .ok (.istore k, 2)) : pm_ev τ xl xs m pc ls (.int x :: st) M = pm_ev τ xl xs m (pc + 2) ls' st M := pm_ev_nx hd rfl rfl rfl (by simp only [pm_nx, hk, Option.bind_some])
theorem ev_astore_n {k : Fin 4} {x : Nat} {ls' : pm_L} (hk : pm_sta ls k.val (.ref x :: st) = some (ls', st)) (hd : decode (pm_b m) pc = .ok (.astore_n k, 1)) : pm_ev τ xl xs m pc ls (.ref x :: st) M = pm_ev τ xl xs m (pc + 1) ls' st M := pm_ev_nx hd rfl rfl rfl (by simp only [pm_nx, hk, Option.bind_some])
theorem ev_astore {k : Nat} {x : Nat} {ls' : pm_L} (hk : pm_sta ls k (.ref x :: st) = some (ls', st)) (hd : decode (pm_b m) pc = .ok (.astore k, 2)) : pm_ev τ xl xs m pc ls (.ref x :: st) M = pm_ev τ xl xs m (pc + 2) ls' st M := pm_ev_nx hd rfl rfl rfl (by simp only [pm_nx, hk, Option.bind_some])
theorem ev_iinc {k : Nat} {n : Int} {x v : Int32} {ls' : pm_L} (hv : Int32.ofInt n = v) (hk : pm_ldi ls k = some x) (hs : (if k < ls.length then some (ls.set k (some (.int (x + v)))) else none) = some ls') (hd : decode (pm_b m) pc = .ok (.iinc k n, 3)) : pm_ev τ xl xs m pc ls st M = pm_ev τ xl xs m (pc + 3) ls' st M := pm_ev_nx hd rfl rfl rfl (by
  subst hv
  simp only [pm_nx, hk, Option.bind_some]
  split at hs
  · rename_i h; rw [if_pos h]; cases hs; rfl
  · cases hs)
theorem ev_iadd {x y : Int32} (hd : decode (pm_b m) pc = .ok (.iadd, 1)) : pm_ev τ xl xs m pc ls (.int y :: .int x :: st) M = pm_ev τ xl xs m (pc + 1) ls (.int (x + y) :: st) M := pm_ev_nx hd rfl rfl rfl rfl
theorem ev_isub {x y : Int32} (hd : decode (pm_b m) pc = .ok (.isub, 1)) : pm_ev τ xl xs m pc ls (.int y :: .int x :: st) M = pm_ev τ xl xs m (pc + 1) ls (.int (x - y) :: st) M := pm_ev_nx hd rfl rfl rfl rfl
theorem ev_imul {x y : Int32} (hd : decode (pm_b m) pc = .ok (.imul, 1)) : pm_ev τ xl xs m pc ls (.int y :: .int x :: st) M = pm_ev τ xl xs m (pc + 1) ls (.int (x * y) :: st) M := pm_ev_nx hd rfl rfl rfl rfl
theorem ev_iand {x y : Int32} (hd : decode (pm_b m) pc = .ok (.iand, 1)) : pm_ev τ xl xs m pc ls (.int y :: .int x :: st) M = pm_ev τ xl xs m (pc + 1) ls (.int (x &&& y) :: st) M := pm_ev_nx hd rfl rfl rfl rfl
theorem ev_ior {x y : Int32} (hd : decode (pm_b m) pc = .ok (.ior, 1)) : pm_ev τ xl xs m pc ls (.int y :: .int x :: st) M = pm_ev τ xl xs m (pc + 1) ls (.int (x ||| y) :: st) M := pm_ev_nx hd rfl rfl rfl rfl
theorem ev_ishl {x y : Int32} (hd : decode (pm_b m) pc = .ok (.ishl, 1)) : pm_ev τ xl xs m pc ls (.int y :: .int x :: st) M = pm_ev τ xl xs m (pc + 1) ls (.int (x <<< (y &&& 31)) :: st) M := pm_ev_nx hd rfl rfl rfl rfl
theorem ev_ishr {x y : Int32} (hd : decode (pm_b m) pc = .ok (.ishr, 1)) : pm_ev τ xl xs m pc ls (.int y :: .int x :: st) M = pm_ev τ xl xs m (pc + 1) ls (.int (x >>> (y &&& 31)) :: st) M := pm_ev_nx hd rfl rfl rfl rfl
theorem ev_iushr {x y : Int32} (hd : decode (pm_b m) pc = .ok (.iushr, 1)) : pm_ev τ xl xs m pc ls (.int y :: .int x :: st) M = pm_ev τ xl xs m (pc + 1) ls (.int (x.toUInt32 >>> (y.toUInt32 &&& Int32.toUInt32 31)).toInt32 :: st) M := pm_ev_nx hd rfl rfl rfl rfl
theorem ev_idiv {x y : Int32} (hy : ¬ y = 0) (hd : decode (pm_b m) pc = .ok (.idiv, 1)) : pm_ev τ xl xs m pc ls (.int y :: .int x :: st) M = pm_ev τ xl xs m (pc + 1) ls (.int (x / y) :: st) M := pm_ev_nx hd rfl rfl rfl (by simp only [pm_nx, if_neg hy])
theorem ev_irem {x y : Int32} (hy : ¬ y = 0) (hd : decode (pm_b m) pc = .ok (.irem, 1)) : pm_ev τ xl xs m pc ls (.int y :: .int x :: st) M = pm_ev τ xl xs m (pc + 1) ls (.int (x - x / y * y) :: st) M := pm_ev_nx hd rfl rfl rfl (by simp only [pm_nx, if_neg hy])
theorem ev_dup {v : Value} (hd : decode (pm_b m) pc = .ok (.dup, 1)) : pm_ev τ xl xs m pc ls (v :: st) M = pm_ev τ xl xs m (pc + 1) ls (v :: v :: st) M := pm_ev_nx hd rfl rfl rfl rfl
theorem ev_dup2 {v w : Value} (hd : decode (pm_b m) pc = .ok (.dup2, 1)) : pm_ev τ xl xs m pc ls (v :: w :: st) M = pm_ev τ xl xs m (pc + 1) ls (v :: w :: v :: w :: st) M := pm_ev_nx hd rfl rfl rfl rfl
theorem ev_pop {v : Value} (hd : decode (pm_b m) pc = .ok (.pop, 1)) : pm_ev τ xl xs m pc ls (v :: st) M = pm_ev τ xl xs m (pc + 1) ls st M := pm_ev_nx hd rfl rfl rfl rfl
theorem ev_goto {off : Int} {t : Nat} (ht : pm_jmp pc off = some t) (hd : decode (pm_b m) pc = .ok (.goto off, 3)) : pm_ev τ xl xs m pc ls st M = pm_ev τ xl xs m t ls st M := pm_ev_nx hd rfl rfl rfl (by simp only [pm_nx, ht, Option.bind_some])
theorem ev_if {c : Jvm.ClassFile.Cond} {off : Int} {t : Nat} {x : Int32} (ht : pm_jmp pc off = some t) (hd : decode (pm_b m) pc = .ok (.ifCond c off, 3)) : pm_ev τ xl xs m pc ls (.int x :: st) M = if pm_cmp c x 0 = true then pm_ev τ xl xs m t ls st M else pm_ev τ xl xs m (pc + 3) ls st M := by
  have h := pm_ev_nx (τ := τ) (xl := xl) (xs := xs) (ls := ls) (st := .int x :: st) (M := M) hd rfl rfl rfl (by simp only [pm_nx, ht, Option.bind_some]; rfl)
  rw [h]
  split <;> rfl
theorem ev_icmp {c : Jvm.ClassFile.Cond} {off : Int} {t : Nat} {x y : Int32} (ht : pm_jmp pc off = some t) (hd : decode (pm_b m) pc = .ok (.if_icmp c off, 3)) : pm_ev τ xl xs m pc ls (.int y :: .int x :: st) M = if pm_cmp c x y = true then pm_ev τ xl xs m t ls st M else pm_ev τ xl xs m (pc + 3) ls st M := by
  have h := pm_ev_nx (τ := τ) (xl := xl) (xs := xs) (ls := ls) (st := .int y :: .int x :: st) (M := M) hd rfl rfl rfl (by simp only [pm_nx, ht, Option.bind_some]; rfl)
  rw [h]
  split <;> rfl
theorem ev_switch {dflt lo hi off : Int} {offs : Array Int} {len t : Nat} {x : Int32} (ho : (if x.toInt < lo ∨ hi < x.toInt then some dflt else offs[(x.toInt - lo).toNat]?) = some off) (ht : pm_jmp pc off = some t) (hd : decode (pm_b m) pc = .ok (.tableswitch dflt lo hi offs, len)) : pm_ev τ xl xs m pc ls (.int x :: st) M = pm_ev τ xl xs m t ls st M := pm_ev_nx hd rfl rfl rfl (by simp only [pm_nx, ho, ht, Option.bind_some])
theorem ev_getI {x o c j : Nat} (hf : pm_tf τ (pm_n m) x = some (c, j)) (hs : ¬ pm_ts τ c j = 2) (hk : (pm_k M o).1 = 2 * c + 2) (hd : decode (pm_b m) pc = .ok (.getfield x, 3)) : pm_ev τ xl xs m pc ls (.ref o :: st) M = pm_ev τ xl xs m (pc + 3) ls (.int (pm_is M o j) :: st) M := pm_ev_nx hd rfl rfl rfl (by simp only [pm_nx, hf, Option.bind_some, if_pos hk, if_neg hs])
theorem ev_getR {x o c j : Nat} (hf : pm_tf τ (pm_n m) x = some (c, j)) (hs : pm_ts τ c j = 2) (hk : (pm_k M o).1 = 2 * c + 2) (hd : decode (pm_b m) pc = .ok (.getfield x, 3)) : pm_ev τ xl xs m pc ls (.ref o :: st) M = pm_ev τ xl xs m (pc + 3) ls (pm_rv (pm_rs M o j) :: st) M := pm_ev_nx hd rfl rfl rfl (by simp only [pm_nx, hf, Option.bind_some, if_pos hk, if_pos hs])
theorem ev_putI {x o c j : Nat} {v : Int32} (hf : pm_tf τ (pm_n m) x = some (c, j)) (hs : pm_ts τ c j = 0) (hk : (pm_k M o).1 = 2 * c + 2) (hd : decode (pm_b m) pc = .ok (.putfield x, 3)) : pm_ev τ xl xs m pc ls (.int v :: .ref o :: st) M = pm_ev τ xl xs m (pc + 3) ls st (pm_setI M o j v) := pm_ev_nx hd rfl rfl rfl (by
  simp only [pm_nx, hf, Option.bind_some]
  rw [if_pos ⟨hk, Or.inl hs⟩])
theorem ev_putZ {x o c j : Nat} {v : Int32} (hf : pm_tf τ (pm_n m) x = some (c, j)) (hs : pm_ts τ c j = 1) (hk : (pm_k M o).1 = 2 * c + 2) (hv : v = 0 ∨ v = 1) (hd : decode (pm_b m) pc = .ok (.putfield x, 3)) : pm_ev τ xl xs m pc ls (.int v :: .ref o :: st) M = pm_ev τ xl xs m (pc + 3) ls st (pm_setI M o j v) := pm_ev_nx hd rfl rfl rfl (by
  simp only [pm_nx, hf, Option.bind_some]
  rw [if_pos ⟨hk, Or.inr ⟨hs, hv⟩⟩])
theorem ev_putR {x o c j v : Nat} (hf : pm_tf τ (pm_n m) x = some (c, j)) (hs : pm_ts τ c j = 2) (hi : (pm_y m).name = "<init>") (hn : pm_n m = c) (hk : (pm_k M o).1 = 2 * c + 2) (hd : decode (pm_b m) pc = .ok (.putfield x, 3)) : pm_ev τ xl xs m pc ls (.ref v :: .ref o :: st) M = pm_ev τ xl xs m (pc + 3) ls st (pm_setR M o j (some v)) := pm_ev_nx hd rfl rfl rfl (by
  simp only [pm_nx, hf, Option.bind_some]
  rw [if_pos ⟨hk, hs, hi, hn⟩])
theorem ev_iald {i : Int32} {o : Nat} (hk : (pm_k M o).1 = 1) (hi : ¬ (i < 0 ∨ (pm_k M o).2 ≤ i.toNatClampNeg)) (hd : decode (pm_b m) pc = .ok (.iaload, 1)) : pm_ev τ xl xs m pc ls (.int i :: .ref o :: st) M = pm_ev τ xl xs m (pc + 1) ls (.int (pm_is M o i.toNatClampNeg) :: st) M := pm_ev_nx hd rfl rfl rfl (by
  simp only [pm_nx]
  rw [if_pos ⟨hk, hi⟩])
theorem ev_sld {i : Int32} {b : Int64} (hi : ¬ (i < 0 ∨ xl ≤ i.toNatClampNeg)) (hd : decode (pm_b m) pc = .ok (.iaload, 1)) : pm_ev τ xl xs m pc ls (.int i :: .long b :: st) M = pm_ev τ xl xs m (pc + 1) ls (.int (xs i.toNatClampNeg) :: st) M := pm_ev_nx hd rfl rfl rfl (by
  simp only [pm_nx]
  rw [if_neg hi])
theorem ev_iast {i v : Int32} {o : Nat} (hk : (pm_k M o).1 = 1) (hi : ¬ (i < 0 ∨ (pm_k M o).2 ≤ i.toNatClampNeg)) (hd : decode (pm_b m) pc = .ok (.iastore, 1)) : pm_ev τ xl xs m pc ls (.int v :: .int i :: .ref o :: st) M = pm_ev τ xl xs m (pc + 1) ls st (pm_setI M o i.toNatClampNeg v) := pm_ev_nx hd rfl rfl rfl (by
  simp only [pm_nx]
  rw [if_pos ⟨hk, hi⟩])
theorem ev_aald {i : Int32} {o c : Nat} (hk : (pm_k M o).1 = 2 * c + 3) (hi : ¬ (i < 0 ∨ (pm_k M o).2 ≤ i.toNatClampNeg)) (hd : decode (pm_b m) pc = .ok (.aaload, 1)) : pm_ev τ xl xs m pc ls (.int i :: .ref o :: st) M = pm_ev τ xl xs m (pc + 1) ls (pm_rv (pm_rs M o i.toNatClampNeg) :: st) M := pm_ev_nx hd rfl rfl rfl (by
  simp only [pm_nx]
  rw [if_pos ⟨by omega, by omega, hi⟩])
theorem ev_aast {i : Int32} {o c v : Nat} (hk : (pm_k M o).1 = 2 * c + 3) (hi : ¬ (i < 0 ∨ (pm_k M o).2 ≤ i.toNatClampNeg)) (hv : (pm_k M v).1 = 2 * c + 2) (hd : decode (pm_b m) pc = .ok (.aastore, 1)) : pm_ev τ xl xs m pc ls (.ref v :: .int i :: .ref o :: st) M = pm_ev τ xl xs m (pc + 1) ls st (pm_setR M o i.toNatClampNeg (some v)) := pm_ev_nx hd rfl rfl rfl (by
  simp only [pm_nx]
  rw [if_pos ⟨by omega, by omega, hi, by omega⟩])
theorem ev_slen {b : Int64} (hd : decode (pm_b m) pc = .ok (.arraylength, 1)) : pm_ev τ xl xs m pc ls (.long b :: st) M = pm_ev τ xl xs m (pc + 1) ls (.int (Int32.ofNat xl) :: st) M := pm_ev_nx hd rfl rfl rfl rfl
theorem ev_new {x c : Nat} (hc : pm_tn τ (pm_n m) x = some c) (hd : decode (pm_b m) pc = .ok (.new x, 3)) : pm_ev τ xl xs m pc ls st M = pm_ev τ xl xs m (pc + 3) ls (.ref M.1 :: st) (pm_new M (2 * c + 2) (pm_tl τ c)) := pm_ev_nx hd rfl rfl rfl (by simp only [pm_nx, hc, Option.bind_some])
theorem ev_newa {n : Int32} (hn : ¬ n < 0 ∧ n.toNatClampNeg ≤ 100000) (hd : decode (pm_b m) pc = .ok (.newarray .int, 2)) : pm_ev τ xl xs m pc ls (.int n :: st) M = pm_ev τ xl xs m (pc + 2) ls (.ref M.1 :: st) (pm_new M 1 n.toNatClampNeg) := pm_ev_nx hd rfl rfl rfl (by
  simp only [pm_nx]
  rw [if_pos ⟨trivial, hn⟩])
theorem ev_anew {x c : Nat} {n : Int32} (hc : pm_ta τ (pm_n m) x = some c) (hn : ¬ n < 0 ∧ n.toNatClampNeg ≤ 100000) (hd : decode (pm_b m) pc = .ok (.anewarray x, 3)) : pm_ev τ xl xs m pc ls (.int n :: st) M = pm_ev τ xl xs m (pc + 3) ls (.ref M.1 :: st) (pm_new M (2 * c + 3) n.toNatClampNeg) := pm_ev_nx hd rfl rfl rfl (by
  simp only [pm_nx, hc, Option.bind_some]
  rw [if_pos hn])
theorem ev_iret {v : Int32} (hr : pm_r m = some .int) (hd : decode (pm_b m) pc = .ok (.ireturn, 1)) : pm_ev τ xl xs m pc ls [.int v] M = some (some (.int v), M) := pm_ev_rt hd rfl rfl (by simp only [pm_rt]; rw [if_pos (Or.inl hr)])
theorem ev_zret {v : Int32} (hr : pm_r m = some .boolean) (hv : v = 0 ∨ v = 1) (hd : decode (pm_b m) pc = .ok (.ireturn, 1)) : pm_ev τ xl xs m pc ls [.int v] M = some (some (.int v), M) := pm_ev_rt hd rfl rfl (by simp only [pm_rt]; rw [if_pos (Or.inr ⟨hr, hv⟩)])
theorem ev_ret (hr : pm_r m = none) (hd : decode (pm_b m) pc = .ok (.return_, 1)) : pm_ev τ xl xs m pc ls [] M = some (none, M) := pm_ev_rt hd rfl rfl (by simp only [pm_rt]; rw [if_pos hr])
/-- the object's own constructor -/
theorem ev_oinit {x o na : Nat} {m' : pm_M} (hc : pm_tc τ (pm_n m) x = some (3, m', na)) (hr : 1 ≤ pm_f m ∧ st.length + 12 ≤ pm_o m) (hd : decode (pm_b m) pc = .ok (.invokespecial x, 3)) : pm_ev τ xl xs m pc ls (.ref o :: st) M = pm_ev τ xl xs m (pc + 3) ls st M := pm_ev_nx hd rfl (by
  simp only [pm_cl, hc, Option.bind_some]
  split
  · rw [if_neg (by rintro ⟨h, -⟩; cases h)]
  · rfl) rfl (by
  simp only [pm_nx, hc, Option.bind_some]
  rw [if_pos ⟨trivial, hr⟩])
theorem ev_max {x na : Nat} {m' : pm_M} {a b : Int32} (hc : pm_tc τ (pm_n m) x = some (4, m', na)) (hr : 1 ≤ pm_f m ∧ st.length + 13 ≤ pm_o m) (hd : decode (pm_b m) pc = .ok (.invokestatic x, 3)) : pm_ev τ xl xs m pc ls (.int b :: .int a :: st) M = pm_ev τ xl xs m (pc + 3) ls (.int (if a < b then b else a) :: st) M := pm_ev_nx hd rfl (by
  simp only [pm_cl, hc, Option.bind_some]
  rw [if_neg (by rintro ⟨h, -⟩; cases h)]) rfl (by
  simp only [pm_nx, hc, Option.bind_some]
  rw [if_pos ⟨trivial, hr⟩])
theorem ev_min {x na : Nat} {m' : pm_M} {a b : Int32} (hc : pm_tc τ (pm_n m) x = some (5, m', na)) (hr : 1 ≤ pm_f m ∧ st.length + 13 ≤ pm_o m) (hd : decode (pm_b m) pc = .ok (.invokestatic x, 3)) : pm_ev τ xl xs m pc ls (.int b :: .int a :: st) M = pm_ev τ xl xs m (pc + 3) ls (.int (if b < a then b else a) :: st) M := pm_ev_nx hd rfl (by
  simp only [pm_cl, hc, Option.bind_some]
  rw [if_neg (by rintro ⟨h, -⟩; cases h)]) rfl (by
  simp only [pm_nx, hc, Option.bind_some]
  rw [if_neg (by rintro ⟨h, -⟩; cases h), if_pos ⟨trivial, hr⟩])
/-- calls: what the callee answers is bound -/
theorem ev_callV {x o na : Nat} {m' : pm_M} {As : List Value} (hc : pm_tc τ (pm_n m) x = some (0, m', na)) (hk : (pm_k M o).1 = 2 * pm_n m' + 2) (hn : As.length = na) (hr : na + 1 ≤ pm_l m' ∧ st.length ≤ 8 ∧ pm_f m' + 1 ≤ pm_f m ∧ 8 + (pm_l m' + 11) + pm_o m' ≤ pm_o m) (hd : decode (pm_b m) pc = .ok (.invokevirtual x, 3)) : pm_ev τ xl xs m pc ls (As ++ .ref o :: st) M = (pm_ev τ xl xs m' 0 (pm_en m' (.ref o :: As.reverse)) [] M).bind fun q => pm_ev τ xl xs m (pc + 3) ls (q.1.toList ++ st) q.2 := by
  refine pm_ev_cl hd rfl ?_
  subst hn
  simp only [pm_cl, hc, Option.bind_some, List.drop_left, List.take_left]
  rw [if_pos ⟨trivial, hk, by simp, hr⟩]
theorem ev_callI {x o na : Nat} {m' : pm_M} {As : List Value} (hc : pm_tc τ (pm_n m) x = some (2, m', na)) (hn : As.length = na) (hr : na + 1 ≤ pm_l m' ∧ st.length ≤ 8 ∧ pm_f m' + 1 ≤ pm_f m ∧ 8 + (pm_l m' + 11) + pm_o m' ≤ pm_o m) (hd : decode (pm_b m) pc = .ok (.invokespecial x, 3)) : pm_ev τ xl xs m pc ls (As ++ .ref o :: st) M = (pm_ev τ xl xs m' 0 (pm_en m' (.ref o :: As.reverse)) [] M).bind fun q => pm_ev τ xl xs m (pc + 3) ls (q.1.toList ++ st) q.2 := by
  refine pm_ev_cl hd rfl ?_
  subst hn
  simp only [pm_cl, hc, Option.bind_some, List.drop_left, List.take_left]
  rw [if_pos ⟨trivial, by simp, hr⟩]
theorem ev_callS {x na : Nat} {m' : pm_M} {As : List Value} (hc : pm_tc τ (pm_n m) x = some (1, m', na)) (hn : As.length = na) (hr : na ≤ pm_l m' ∧ st.length ≤ 8 ∧ pm_f m' + 1 ≤ pm_f m ∧ 8 + (pm_l m' + 11) + pm_o m' ≤ pm_o m) (hd : decode (pm_b m) pc = .ok (.invokestatic x, 3)) : pm_ev τ xl xs m pc ls (As ++ st) M = (pm_ev τ xl xs m' 0 (pm_en m' As.reverse) [] M).bind fun q => pm_ev τ xl xs m (pc + 3) ls (q.1.toList ++ st) q.2 := by
  refine pm_ev_cl hd rfl ?_
  subst hn
  simp only [pm_cl, hc, Option.bind_some, List.drop_left, List.take_left]
  rw [if_pos ⟨trivial, by simp, hr⟩]
end PMEV
end
section
/-! THE REAL MACHINE ANSWERS WHAT THE PURE ONE DOES: pictures of a heap, instruction by instruction -/
def pm_sh (base b : Nat) (v : Value) : Value := match v with
  | .int x => .int x
  | .ref o => .ref (base + o)
  | .long _ => .ref b
  | _ => .null
theorem pm_sh_cat (base b : Nat) (v : Value) : (pm_sh base b v).category = 1 := by cases v <;> rfl
theorem pm_sh_rv (base b : Nat) (r : Option Nat) : pm_sh base b (pm_rv r) = va_rf (r.map (fun o => base + o)) := by cases r <;> rfl
/-- the listed values of a frame's variables -/
def pm_as (base b : Nat) (ls : pm_L) : List (Nat × Value) := (List.range ls.length).filterMap fun i => match ls[i]? with
  | some (some v) => some (i, pm_sh base b v)
  | _ => none
theorem pm_as_mem {base b : Nat} {ls : pm_L} {q : Nat × Value} : q ∈ pm_as base b ls ↔ ∃ v, ls[q.1]? = some (some v) ∧ q.2 = pm_sh base b v := by
  unfold pm_as
  rw [List.mem_filterMap]
  constructor
  · rintro ⟨i, hi, h⟩
    split at h
    · rename_i v hv
      cases h
      exact ⟨v, hv, rfl⟩
    · cases h
  · rintro ⟨v, h1, h2⟩
    have hlt : q.1 < ls.length := (List.getElem?_eq_some_iff.mp h1).1
    refine ⟨q.1, List.mem_range.mpr hlt, ?_⟩
    rw [h1]
    obtain ⟨a, w⟩ := q
    dsimp only at h2 ⊢
    rw [h2]
theorem pm_as_at {base b nL : Nat} {ls : pm_L} {la : Array Slot} (h : lv_has la nL (pm_as base b ls)) {k : Nat} {v : Value} (hk : ls[k]? = some (some v)) : la[k]? = some (.val (pm_sh base b v)) := h.2.2 (k, pm_sh base b v) (pm_as_mem.mpr ⟨v, hk, rfl⟩)
theorem pm_as_set {base b nL : Nat} {ls : pm_L} {la : Array Slot} {k : Nat} {v : Value} (h : lv_has la nL ((k, pm_sh base b v) :: (pm_as base b ls).filter (fun q => !(q.1 == k) && !(q.1 + 1 == k && q.2.category == 2)))) : lv_has la nL (pm_as base b (ls.set k (some v))) := by
  refine ⟨h.1, h.2.1, fun q hq => ?_⟩
  obtain ⟨w, h1, h2⟩ := pm_as_mem.mp hq
  refine h.2.2 q ?_
  obtain ⟨a, z⟩ := q
  dsimp only at h1 h2
  subst h2
  by_cases ha : a = k
  · subst ha
    rw [List.getElem?_set] at h1
    rw [if_pos rfl] at h1
    split at h1
    · cases h1
      exact List.mem_cons_self
    · cases h1
  · rw [List.getElem?_set_ne (fun e => ha e.symm)] at h1
    refine List.mem_cons_of_mem _ (List.mem_filter.mpr ⟨pm_as_mem.mpr ⟨w, h1, rfl⟩, ?_⟩)
    have hc := pm_sh_cat base b w
    simp [ha, hc]
theorem pm_as_entry (base b : Nat) (m : pm_M) (vs : List Value) : ∀ q ∈ pm_as base b (pm_en m vs), q ∈ lv_args 0 (vs.map (pm_sh base b)) := by
  intro q hq
  obtain ⟨v, h1, h2⟩ := pm_as_mem.mp hq
  obtain ⟨a, z⟩ := q
  dsimp only at h1 h2
  subst h2
  have hv : vs[a]? = some v := by
    unfold pm_en at h1
    rw [List.getElem?_append] at h1
    split at h1
    · rw [List.getElem?_map] at h1
      cases hx : vs[a]? with
      | none => rw [hx] at h1; cases h1
      | some w => rw [hx] at h1; cases h1; rfl
    · rw [List.getElem?_replicate] at h1
      split at h1 <;> cases h1
  have key : ∀ (us : List Value) (i j : Nat), us[j]? = some v → (i + j, pm_sh base b v) ∈ lv_args i (us.map (pm_sh base b)) := by
    intro us
    induction us with
    | nil => intro i j h; cases h
    | cons u us ih =>
      intro i j h
      rw [List.map_cons, lv_args]
      rw [if_neg (by rw [pm_sh_cat]; decide)]
      cases j with
      | zero => cases h; exact List.mem_cons_self
      | succ j =>
        have := ih (i + 1) j h
        rw [show i + (j + 1) = i + 1 + j by omega]
        exact List.mem_cons_of_mem _ this
  have := key vs 0 a hv
  rwa [Nat.zero_add] at this
theorem pm_en_len {m : pm_M} {vs : List Value} (h : vs.length ≤ pm_l m) : (pm_en m vs).length = pm_l m := by
  simp [pm_en]
  omega
theorem pm_lg (base b : Nat) (vs : List Value) : (lg_sl (vs.map (pm_sh base b))).length = vs.length := by
  induction vs with
  | nil => rfl
  | cons v vs ih =>
    show (List.flatMap _ _).length = _
    rw [List.map_cons, List.flatMap_cons, List.length_append]
    rw [if_neg (by rw [pm_sh_cat]; decide)]
    have : (List.flatMap (fun v => if v.category = 2 then [Slot.val v, .second] else [.val v]) (vs.map (pm_sh base b))).length = vs.length := ih
    rw [this]
    simp
    omega
theorem pm_cats (base b : Nat) (st : List Value) : ((st.map (pm_sh base b)).map fun v => v.category).sum = st.length := by
  induction st with
  | nil => rfl
  | cons v st ih =>
    rw [List.map_cons, List.map_cons, List.sum_cons, ih, pm_sh_cat, List.length_cons]
    omega
/-- one cell of the picture -/
def pm_at (τ : pm_T) (cl : List vw_C) (acs : List Nat) (D : va_G) (cA : Nat → ClassId) (base : Nat) (M : pm_H) (H : Heap) (k : Nat) : Prop :=
  (∀ c n : Nat, pm_k M k = (2 * c + 2, n) → (∃ q : vw_C, cl[c]? = some q ∧ q.2.2 = n) ∧ t_OB (base + k) (D.1 c) n (D.2 c) H (fun j => if pm_ts τ c j = 2 then va_rf ((pm_rs M k j).map (fun o => base + o)) else .int (pm_is M k j))) ∧
  (∀ n : Nat, pm_k M k = (1, n) → H[base + k]? = some (arrV (cA 1) n (fun j => .int (pm_is M k j)))) ∧
  (∀ c n : Nat, pm_k M k = (2 * c + 3, n) → c ∈ acs ∧ H[base + k]? = some (arrV (cA (2 * c + 3)) n (fun j => va_rf ((pm_rs M k j).map (fun o => base + o)))))
theorem pm_at_keep {τ : pm_T} {cl : List vw_C} {acs : List Nat} {D : va_G} {cA : Nat → ClassId} {base : Nat} {M M' : pm_H} {H H' : Heap} {k : Nat} (h : pm_at τ cl acs D cA base M H k) (hH : H'[base + k]? = H[base + k]?) (hk : pm_k M' k = pm_k M k) (hr : ∀ j, pm_rs M' k j = pm_rs M k j) (hi : ∀ j, pm_is M' k j = pm_is M k j) : pm_at τ cl acs D cA base M' H' k := by
  obtain ⟨h1, h2, h3⟩ := h
  refine ⟨fun c n e => ?_, fun n e => ?_, fun c n e => ?_⟩
  · obtain ⟨a, b⟩ := h1 c n (hk.symm.trans e)
    refine ⟨a, (b.kept hH).to fun j _ => ?_⟩
    rw [hr, hi]
  · rw [hH, h2 n (hk.symm.trans e)]
    exact congrArg some (congrArg (arrV (cA 1) n) (funext fun j => by rw [hi]))
  · obtain ⟨a, b⟩ := h3 c n (hk.symm.trans e)
    refine ⟨a, ?_⟩
    rw [hH, b]
    exact congrArg some (congrArg (arrV _ n) (funext fun j => by rw [hr]))
/-- what the tables say, of the machine that stands there -/
def pm_K (cl : List vw_C) (acs : List Nat) (D : va_G) (cA : Nat → ClassId) (s : State) : Prop :=
  va_K D cl [] s ∧ (ArrOfT s (cA 1) .int ∧ va_RA s (cA 1) .int) ∧ ∀ c, c ∈ acs → ∀ q : vw_C, cl[c]? = some q → (ArrOfT s (cA (2 * c + 3)) (.object q.1) ∧ va_RA s (cA (2 * c + 3)) (.object q.1)) ∧ va_AO q.1 s
theorem pm_K.moved {cl : List vw_C} {acs : List Nat} {D : va_G} {cA : Nat → ClassId} {u U : State} (hvm : u.vm.Alike U.vm) (h : pm_K cl acs D cA u) : pm_K cl acs D cA U :=
  ⟨va_K.moved hvm h.1, ⟨arrOfT_moved hvm h.2.1.1, h.2.1.2.moved hvm⟩, fun c hc q hq => ⟨⟨arrOfT_moved hvm (h.2.2 c hc q hq).1.1, (h.2.2 c hc q hq).1.2.moved hvm⟩, va_AO.moved hvm (h.2.2 c hc q hq).2⟩⟩
/-- a heap that the memory pictures -/
def pm_Pic (τ : pm_T) (cl : List vw_C) (acs : List Nat) (D : va_G) (cA : Nat → ClassId) (base : Nat) (M : pm_H) (H : Heap) : Prop :=
  H.size = base + M.1 ∧ (∀ k, M.1 ≤ k → (pm_k M k).1 = 0) ∧ ∀ k, pm_at τ cl acs D cA base M H k
theorem pm_Pic.lt {τ : pm_T} {cl : List vw_C} {acs : List Nat} {D : va_G} {cA : Nat → ClassId} {base : Nat} {M : pm_H} {H : Heap} (h : pm_Pic τ cl acs D cA base M H) {k : Nat} (hk : (pm_k M k).1 ≠ 0) : k < M.1 := by
  rcases Nat.lt_or_ge k M.1 with h1 | h1
  · exact h1
  · exact absurd (h.2.1 k h1) hk
/-- one cell has changed -/
theorem pm_Pic.put {τ : pm_T} {cl : List vw_C} {acs : List Nat} {D : va_G} {cA : Nat → ClassId} {base : Nat} {M M' : pm_H} {H H' : Heap} {k : Nat} (h : pm_Pic τ cl acs D cA base M H) (hz : H'.size = H.size) (hq : ∀ q, q ≠ base + k → H'[q]? = H[q]?) (h1 : M'.1 = M.1) (hk : ∀ a, pm_k M' a = pm_k M a) (hr : ∀ a, a ≠ k → ∀ j, pm_rs M' a j = pm_rs M a j) (hi : ∀ a, a ≠ k → ∀ j, pm_is M' a j = pm_is M a j) (hat : pm_at τ cl acs D cA base M' H' k) : pm_Pic τ cl acs D cA base M' H' := by
  refine ⟨by rw [hz, h1]; exact h.1, fun a ha => by rw [hk]; exact h.2.1 a (by rw [← h1]; exact ha), fun a => ?_⟩
  by_cases e : a = k
  · subst e; exact hat
  · exact pm_at_keep (h.2.2 a) (hq _ (by omega)) (hk a) (hr a e) (hi a e)
theorem pm_new_k (M : pm_H) (kind len k : Nat) : pm_k (pm_new M kind len) k = if k = M.1 then (kind, len) else pm_k M k := rfl
theorem pm_new_r (M : pm_H) (kind len k j : Nat) : pm_rs (pm_new M kind len) k j = if k = M.1 then none else pm_rs M k j := rfl
theorem pm_new_i (M : pm_H) (kind len k j : Nat) : pm_is (pm_new M kind len) k j = if k = M.1 then 0 else pm_is M k j := rfl
theorem pm_Pic.new {τ : pm_T} {cl : List vw_C} {acs : List Nat} {D : va_G} {cA : Nat → ClassId} {base : Nat} {M : pm_H} {H H' : Heap} {kind len : Nat} (h : pm_Pic τ cl acs D cA base M H) (hz : H'.size = H.size + 1) (hq : ∀ q, q < H.size → H'[q]? = H[q]?) (hat : pm_at τ cl acs D cA base (pm_new M kind len) H' M.1) : pm_Pic τ cl acs D cA base (pm_new M kind len) H' := by
  refine ⟨by rw [hz, h.1]; rfl, fun a ha => ?_, fun a => ?_⟩
  · have ha : M.1 + 1 ≤ a := ha
    rw [pm_new_k, if_neg (by omega)]
    exact h.2.1 a (by omega)
  · rcases Nat.lt_trichotomy a M.1 with e | e | e
    · exact pm_at_keep (h.2.2 a) (hq _ (by rw [h.1]; omega)) (by rw [pm_new_k, if_neg (by omega)]) (fun j => by rw [pm_new_r, if_neg (by omega)]) (fun j => by rw [pm_new_i, if_neg (by omega)])
    · subst e; exact hat
    · have hk : (pm_k (pm_new M kind len) a).1 = 0 := by rw [pm_new_k, if_neg (by omega)]; exact h.2.1 a (by omega)
      refine ⟨fun c n e => ?_, fun n e => ?_, fun c n e => ?_⟩ <;> (rw [e] at hk; dsimp only at hk; omega)
end
section
/-! what the tables must hold, and the rows of the instructions that touch the memory -/
def pm_okM (Rn : Nat → String) (Ts : List Jvm.Cond) (m : pm_M) : Prop := Jvm.Cond.code (pm_y m) (pm_b m) (pm_l m) (pm_r m) ∈ Ts ∧ plainName (pm_y m).cls = true ∧ Rn (pm_n m) = (pm_y m).cls
def pm_okC (cl : List vw_C) (Rn : Nat → String) (Ts : List Jvm.Cond) (n x : Nat) (q : Nat × pm_M × Nat) : Prop :=
  (q.1 = 3 → Jvm.Cond.methodLink (Rn n) x Jvm.Lib.objectInit ∈ Ts ∧ Jvm.Cond.instanceMethod Jvm.Lib.objectInit ∈ Ts ∧ Jvm.Cond.code Jvm.Lib.objectInit ⟨#[0xb1]⟩ 1 none ∈ Ts) ∧
  (q.1 < 3 → pm_okM Rn Ts q.2.1 ∧ Jvm.Cond.methodLink (Rn n) x (pm_y q.2.1) ∈ Ts ∧ Jvm.Cond.initialized (pm_y q.2.1).cls ∈ Ts ∧ ((pm_y q.2.1).cls ≠ "java/lang/invoke/MethodHandle" ∧ (pm_y q.2.1).cls ≠ "java/lang/invoke/VarHandle" ∧ (parseMethodDescriptor (pm_y q.2.1).desc).map (fun d => d.parameters.length) = some q.2.2)) ∧
  (q.1 = 0 → Jvm.Cond.instanceMethod (pm_y q.2.1) ∈ Ts ∧ Jvm.Cond.selects (pm_y q.2.1).cls (pm_y q.2.1) (pm_y q.2.1) ∈ Ts) ∧
  (q.1 = 1 → Jvm.Cond.static (pm_y q.2.1) ∈ Ts) ∧
  (q.1 = 2 → (pm_y q.2.1).name = "<init>" ∧ Jvm.Cond.instanceMethod (pm_y q.2.1) ∈ Ts ∧ pm_r q.2.1 = none) ∧
  (q.1 = 4 → Jvm.Cond.methodLink (Rn n) x Jvm.Lib.Math.max.name ∈ Ts ∧ Jvm.Cond.static Jvm.Lib.Math.max.name ∈ Ts ∧ Jvm.Cond.initialized "java/lang/Math" ∈ Ts ∧ Jvm.Cond.code Jvm.Lib.Math.max.name Jvm.Lib.Math.max.code 2 (some .int) ∈ Ts) ∧
  (q.1 = 5 → Jvm.Cond.methodLink (Rn n) x Jvm.Lib.Math.min.name ∈ Ts ∧ Jvm.Cond.static Jvm.Lib.Math.min.name ∈ Ts ∧ Jvm.Cond.initialized "java/lang/Math" ∈ Ts ∧ Jvm.Cond.code Jvm.Lib.Math.min.name Jvm.Lib.Math.min.code 2 (some .int) ∈ Ts)
def pm_okK (τ : pm_T) (Rn : Nat → String) (Ts : List Jvm.Cond) (c : Nat) (q : vw_C) : Prop :=
  Rn c = q.1 ∧ (∀ w ∈ u_ws q.1 q.2.1 q.2.2, w ∈ Ts) ∧ (∀ a, a < q.2.2 → ∀ b, b < q.2.2 → a ≠ b → (q.2.1 a).2.1 ≠ (q.2.1 b).2.1) ∧
  ∃ ty : Nat → FieldType, (∀ j, j < q.2.2 → parseFieldDescriptor (q.2.1 j).2.2.1 = some (ty j)) ∧ ∀ j, j < q.2.2 → (pm_ts τ c j = 0 ∧ ty j = .int ∧ (q.2.1 j).2.2.2 = false) ∨ (pm_ts τ c j = 1 ∧ ty j = .boolean ∧ (q.2.1 j).2.2.2 = false) ∨ (pm_ts τ c j = 2 ∧ ((∃ n, ty j = .object n) ∨ ∃ t, ty j = .array t) ∧ (q.2.1 j).2.2.2 = true ∧ (q.2.1 j).1 = q.1)
def pm_ok (τ : pm_T) (cl : List vw_C) (acs : List Nat) (Rn : Nat → String) (Ts : List Jvm.Cond) : Prop :=
  (∀ w ∈ Ts, goodWord w = true) ∧ (∀ c q, cl[c]? = some q → pm_okK τ Rn Ts c q) ∧
  (∀ n x c j, pm_tf τ n x = some (c, j) → ∃ q : vw_C, cl[c]? = some q ∧ j < q.2.2 ∧ Jvm.Cond.fieldLink (Rn n) x (q.2.1 j).1 (q.2.1 j).2.1 (q.2.1 j).2.2.1 ∈ Ts) ∧
  (∀ n x v, pm_tk τ n x = some v → Jvm.Cond.constant (Rn n) x v ∈ Ts) ∧
  (∀ n x c, pm_tn τ n x = some c → ∃ q : vw_C, cl[c]? = some q ∧ pm_tl τ c = q.2.2 ∧ Jvm.Cond.classLink (Rn n) x q.1 ∈ Ts ∧ Jvm.Cond.instantiable q.1 q.2.2 ∈ Ts ∧ Jvm.Cond.initialized q.1 ∈ Ts) ∧
  (∀ n x c, pm_ta τ n x = some c → c ∈ acs ∧ ∃ q : vw_C, cl[c]? = some q ∧ Jvm.Cond.classLink (Rn n) x q.1 ∈ Ts) ∧
  Jvm.Cond.arrayClass .int ∈ Ts ∧ (∀ c, c ∈ acs → ∃ q : vw_C, cl[c]? = some q) ∧ (∀ n x q, pm_tc τ n x = some q → pm_okC cl Rn Ts n x q)
section PMR
variable {p : Program} {l : Launch} {e : Env} {R : Room} {s : State} {mi : MethodId} {args : Array Value} {below : List Frame} {meth : Method} {c0 : Code} {H : Heap} {locs : List Loc} {cells slots : Nat} {Q : State → Prop}
variable {cc : ByteArray} {pc : Nat} {la : Array Slot} {rest : List Value}
variable {τ : pm_T} {cl : List vw_C} {acs : List Nat} {Rn : Nat → String} {Ts : List Jvm.Cond} {D : va_G} {cA : Nat → ClassId} {base b xl : Nat} {xs : Nat → Int32} {M : pm_H} {n x : Nat}
/-- the walk's state: the picture, the script, what has been written -/
def pm_Rl (τ : pm_T) (cl : List vw_C) (acs : List Nat) (D : va_G) (cA : Nat → ClassId) (base b xl : Nat) (xs : Nat → Int32) (s : State) (M : pm_H) (H : Heap) (locs : List Loc) : Prop :=
  pm_Pic τ cl acs D cA base M H ∧ va_X b xl xs s H ∧ va_S (fun q => base ≤ q) s.heap H locs
theorem pm_X_keep {H' : Heap} {U : State} (h : va_X b xl xs U H) (hb : H'[b]? = H[b]?) : va_X b xl xs U H' := by
  obtain ⟨scr, h1, h2⟩ := h
  exact ⟨scr, hb.trans h1, h2⟩
theorem pm_Rl.put {M' : pm_H} {H' : Heap} {k j : Nat} (h : pm_Rl τ cl acs D cA base b xl xs s M H locs) (hbb : b < base) (hz : H'.size = H.size) (hq : ∀ q, q ≠ base + k → H'[q]? = H[q]?) (h1 : M'.1 = M.1) (hk : ∀ a, pm_k M' a = pm_k M a) (hr : ∀ a, a ≠ k → ∀ j, pm_rs M' a j = pm_rs M a j) (hi : ∀ a, a ≠ k → ∀ j, pm_is M' a j = pm_is M a j) (hat : pm_at τ cl acs D cA base M' H' k) : pm_Rl τ cl acs D cA base b xl xs s M' H' (locs ++ [⟨base + k, j⟩]) :=
  ⟨h.1.put hz hq h1 hk hr hi hat, pm_X_keep h.2.1 (hq b (by omega)), h.2.2.put hz hq (Nat.le_add_right _ _)⟩
theorem pm_Rl.new {H' : Heap} {kind len : Nat} (h : pm_Rl τ cl acs D cA base b xl xs s M H locs) (hbb : b < base) (hz : H'.size = H.size + 1) (hq : ∀ q, q < H.size → H'[q]? = H[q]?) (hat : pm_at τ cl acs D cA base (pm_new M kind len) H' M.1) : pm_Rl τ cl acs D cA base b xl xs s (pm_new M kind len) H' locs :=
  ⟨h.1.new hz hq hat, pm_X_keep h.2.1 (hq b (by rw [h.1.1]; omega)), Nat.le_trans h.2.2.1 (by omega), fun q h1 h2 => (hq q (Nat.lt_of_lt_of_le h1 h.2.2.1)).trans (h.2.2.2.1 q h1 h2), h.2.2.2.2⟩
/-- getfield -/
theorem pm_getW {o c j : Nat} (hx : p.tables.exec = Jvm.exec) (hb : c0.code = cc) (hok : pm_ok τ cl acs Rn Ts) (hts : ∀ w ∈ Ts, w.before args s = true) (hown : s.vm.findClass (Rn n) = some mi.cls) (hK : pm_K cl acs D cA s) (hR : pm_Pic τ cl acs D cA base M H) (hf : pm_tf τ n x = some (c, j)) (hk : (pm_k M o).1 = 2 * c + 2) (hdg : decode cc pc = .ok (.getfield x, 3))
    (kk : W p l e R s mi args below meth c0 H locs cells slots Q (F0 mi (pc + 3) la (pm_sh base b (if pm_ts τ c j = 2 then pm_rv (pm_rs M o j) else .int (pm_is M o j)) :: rest))) : W p l e R s mi args below meth c0 H locs cells slots Q (F0 mi pc la (.ref (base + o) :: rest)) := by
  obtain ⟨q, hq, hj, hlk⟩ := hok.2.2.1 n x c j hf
  obtain ⟨hRn, hin, hnm, ty, hty, -⟩ := hok.2.1 c q hq
  obtain ⟨⟨q', hq', hlen⟩, cell, q1, q2, q3, q4⟩ := (hR.2.2 o).1 c (pm_k M o).2 (by rw [← hk])
  obtain rfl : q' = q := Option.some.inj (hq'.symm.trans hq)
  obtain ⟨hS, hfc, kC, hkC, hkind⟩ := hK.1.1 c _ hq
  obtain ⟨cf, kf, fi, f, hi, hsl⟩ := hS j hj
  have h4 := q4 j (by rw [← hlen]; exact hj)
  refine W.getf hx hb hown (hts _ hlk) hi (u_facts hfc hkC (u_lays hts hin hj) hi).1 q1 (by rw [q3]; exact fun h => by cases h) (v := pm_sh base b (if pm_ts τ c j = 2 then pm_rv (pm_rs M o j) else .int (pm_is M o j))) ?_ rfl rfl hdg kk
  rw [hsl, h4]
  dsimp only
  split
  · rw [pm_sh_rv]
  · rfl
/-- putfield of a number -/
theorem pm_putIW {o c j : Nat} {v : Int32} (hx : p.tables.exec = Jvm.exec) (hb : c0.code = cc) (hok : pm_ok τ cl acs Rn Ts) (hts : ∀ w ∈ Ts, w.before args s = true) (hown : s.vm.findClass (Rn n) = some mi.cls) (hK : pm_K cl acs D cA s) (hbb : b < base) (hR : pm_Rl τ cl acs D cA base b xl xs s M H locs) (hf : pm_tf τ n x = some (c, j)) (hk : (pm_k M o).1 = 2 * c + 2) (hv : pm_ts τ c j = 0 ∨ (pm_ts τ c j = 1 ∧ (v = 0 ∨ v = 1))) (hdg : decode cc pc = .ok (.putfield x, 3))
    (kk : ∀ (H1 : Heap) (locs1 : List Loc), pm_Rl τ cl acs D cA base b xl xs s (pm_setI M o j v) H1 locs1 → W p l e R s mi args below meth c0 H1 locs1 cells slots Q (F0 mi (pc + 3) la rest)) : W p l e R s mi args below meth c0 H locs cells slots Q (F0 mi pc la (.int v :: .ref (base + o) :: rest)) := by
  obtain ⟨q, hq, hj, hlk⟩ := hok.2.2.1 n x c j hf
  obtain ⟨hRn, hin, hnm, ty, hty, hso⟩ := hok.2.1 c q hq
  have hke : pm_k M o = (2 * c + 2, (pm_k M o).2) := by rw [← hk]
  obtain ⟨⟨q', hq', hlen⟩, cell, q1, q2, q3, q4⟩ := (hR.1.2.2 o).1 c (pm_k M o).2 hke
  obtain rfl : q' = q := Option.some.inj (hq'.symm.trans hq)
  obtain ⟨C, T, N⟩ := q'
  have hap := va_apart (own := Rn n) hts hin ty hty hnm hK.1 hq
  obtain ⟨hS, hfc, kC, hkC, hkind⟩ := hK.1.1 c _ hq
  obtain ⟨cf, kf, fi, f, hi, hsl⟩ := hS j hj
  dsimp only at hj hlen hin hnm hty hso hi hlk
  have hfin : (T j).2.2.2 = false := by
    rcases hso j hj with ⟨-, -, h⟩ | ⟨-, -, h⟩ | ⟨h2, -⟩
    · exact h
    · exact h
    · rcases hv with h | ⟨h, -⟩ <;> rw [h2] at h <;> cases h
  have hn : narrow (ty j) (.int v) = .int v ∧ fits (ty j) (.int v) = true := by
    rcases hso j hj with ⟨-, h, -⟩ | ⟨h1, h, -⟩ | ⟨h2, -⟩
    · rw [h]; exact ⟨rfl, rfl⟩
    · rw [h]
      rcases hv with h' | ⟨-, h'⟩
      · rw [h1] at h'; cases h'
      · rcases h' with rfl | rfl <;> exact ⟨by decide, by decide⟩
    · rcases hv with h | ⟨h, -⟩ <;> rw [h2] at h <;> cases h
  have hlay := hts _ (hin _ (u_in_lay hj))
  unfold u_lay at hlay
  rw [if_neg (by rw [hfin]; decide)] at hlay
  have hst := (u_facts hfc hkC (u_lays hts hin hj) hi).1
  have h6 := u_store hfc hkC hkind hlay hi (hty j hj) hn.1 hn.2
  have hjl : j < (pm_k M o).2 := by rw [← hlen]; exact hj
  refine W.putK hx hb (f := f) ⟨hown, hts _ hlk, ⟨_, _, _, hi⟩, hst⟩ (by rw [q2]; exact h6) q1 q3 (by rw [hsl]; exact k2_hasslot (q4 j hjl)) rfl rfl hdg fun H' e1 e2 e3 => ?_
  rw [hsl] at e1 ⊢
  refine kk H' _ (hR.put hbb e2 e3 rfl (fun _ => rfl) (fun _ _ _ => rfl) (fun a ha i => ?_) ⟨fun c' n' he => ?_, fun n' he => ?_, fun c' n' he => ?_⟩)
  · show pm_u2 _ _ _ _ _ _ = _
    unfold pm_u2
    rw [if_neg (fun h => ha h.1)]; rfl
  · have he : pm_k M o = (2 * c' + 2, n') := he
    obtain rfl : c' = c := by rw [he] at hk; dsimp only at hk; omega
    obtain rfl : n' = (pm_k M o).2 := by rw [he]
    refine ⟨⟨_, hq, hlen⟩, _, e1, q2, q3, fun i hi' => ?_⟩
    rw [t_set q4 (by rw [← hlen]; exact hap) hjl (.int v) i hi']
    unfold updV
    dsimp only
    by_cases hij : i = j
    · subst hij
      rw [if_pos rfl]
      have h0 : ¬ pm_ts τ c' i = 2 := by rcases hv with h | ⟨h, -⟩ <;> rw [h] <;> decide
      rw [if_neg h0]
      show _ = some (Value.int (pm_u2 _ _ _ _ _ _))
      unfold pm_u2
      rw [if_pos ⟨rfl, rfl⟩]
    · rw [if_neg hij]
      have h0 : pm_is (pm_setI M o j v) o i = pm_is M o i := by
        show pm_u2 _ _ _ _ _ _ = _
        unfold pm_u2
        rw [if_neg (fun h => hij h.2)]; rfl
      rw [h0]
      rfl
  · have he : pm_k M o = (1, n') := he
    rw [he] at hk; dsimp only at hk; omega
  · have he : pm_k M o = (2 * c' + 3, n') := he
    rw [he] at hk; dsimp only at hk; omega
/-- putfield of a final reference, in a constructor -/
theorem pm_putRW {o c j v : Nat} (hx : p.tables.exec = Jvm.exec) (hb : c0.code = cc) (hok : pm_ok τ cl acs Rn Ts) (hts : ∀ w ∈ Ts, w.before args s = true) (hown : s.vm.findClass (Rn n) = some mi.cls) (hname : meth.name = "<init>") (hnc : n = c) (hK : pm_K cl acs D cA s) (hbb : b < base) (hR : pm_Rl τ cl acs D cA base b xl xs s M H locs) (hf : pm_tf τ n x = some (c, j)) (hk : (pm_k M o).1 = 2 * c + 2) (hv : pm_ts τ c j = 2) (hdg : decode cc pc = .ok (.putfield x, 3))
    (kk : ∀ (H1 : Heap) (locs1 : List Loc), pm_Rl τ cl acs D cA base b xl xs s (pm_setR M o j (some v)) H1 locs1 → W p l e R s mi args below meth c0 H1 locs1 cells slots Q (F0 mi (pc + 3) la rest)) : W p l e R s mi args below meth c0 H locs cells slots Q (F0 mi pc la (.ref (base + v) :: .ref (base + o) :: rest)) := by
  obtain ⟨q, hq, hj, hlk⟩ := hok.2.2.1 n x c j hf
  obtain ⟨hRn, hin, hnm, ty, hty, hso⟩ := hok.2.1 c q hq
  have hke : pm_k M o = (2 * c + 2, (pm_k M o).2) := by rw [← hk]
  obtain ⟨⟨q', hq', hlen⟩, cell, q1, q2, q3, q4⟩ := (hR.1.2.2 o).1 c (pm_k M o).2 hke
  obtain rfl : q' = q := Option.some.inj (hq'.symm.trans hq)
  obtain ⟨C, T, N⟩ := q'
  have hap := va_apart (own := Rn n) hts hin ty hty hnm hK.1 hq
  obtain ⟨hS, hfc, kC, hkC, hkind⟩ := hK.1.1 c _ hq
  obtain ⟨cf, kf, fi, f, hi, hsl⟩ := hS j hj
  dsimp only at hj hlen hin hnm hty hso hi hlk hRn
  obtain ⟨hrt, hfin, hdecl⟩ : ((∃ n, ty j = .object n) ∨ ∃ t, ty j = .array t) ∧ (T j).2.2.2 = true ∧ (T j).1 = C := by
    rcases hso j hj with ⟨h, -, -⟩ | ⟨h, -, -⟩ | ⟨-, h⟩
    · rw [hv] at h; cases h
    · rw [hv] at h; cases h
    · exact h
  have hn : narrow (ty j) (.ref (base + v)) = .ref (base + v) ∧ fits (ty j) (.ref (base + v)) = true := by
    rcases hrt with ⟨z, h⟩ | ⟨z, h⟩ <;> rw [h] <;> exact ⟨rfl, rfl⟩
  have hlay := hts _ (hin _ (u_in_lay hj))
  unfold u_lay at hlay
  rw [if_pos hfin] at hlay
  have hst := (u_facts hfc hkC (u_lays hts hin hj) hi).1
  have hcf : mi.cls = cf := by
    obtain ⟨_, _, c', _, _, _, -, -, hf', -, -, -, hown2, -⟩ := Jvm.Cond.laysFinal_spec hlay
    have e1 : c' = cf := by have := hi.symm.trans hf'; simp at this; exact this.1.symm
    rw [hdecl, ← hRn, ← hnc] at hown2
    rw [← e1]; exact Option.some.inj (hown.symm.trans hown2)
  have h6 := u_fits hfc hkC hkind (Or.inr hlay) hi (hty j hj) hn.1 hn.2
  have hjl : j < (pm_k M o).2 := by rw [← hlen]; exact hj
  refine W.putFinK hx hb hown (hts _ hlk) hi hst hcf hname (by rw [q2]; exact h6) q1 q3 (by rw [hsl]; exact k2_hasslot (q4 j hjl)) rfl rfl hdg fun H' e1 e2 e3 => ?_
  rw [hsl] at e1 ⊢
  refine kk H' _ (hR.put hbb e2 e3 rfl (fun _ => rfl) (fun a ha i => ?_) (fun _ _ _ => rfl) ⟨fun c' n' he => ?_, fun n' he => ?_, fun c' n' he => ?_⟩)
  · show pm_u2 _ _ _ _ _ _ = _
    unfold pm_u2
    rw [if_neg (fun h => ha h.1)]; rfl
  · have he : pm_k M o = (2 * c' + 2, n') := he
    obtain rfl : c' = c := by rw [he] at hk; dsimp only at hk; omega
    obtain rfl : n' = (pm_k M o).2 := by rw [he]
    refine ⟨⟨_, hq, hlen⟩, _, e1, q2, q3, fun i hi' => ?_⟩
    rw [t_set q4 (by rw [← hlen]; exact hap) hjl (.ref (base + v)) i hi']
    unfold updV
    dsimp only
    by_cases hij : i = j
    · subst hij
      rw [if_pos rfl, if_pos hv]
      have h0 : pm_rs (pm_setR M o i (some v)) o i = some v := by
        show pm_u2 _ _ _ _ _ _ = _
        unfold pm_u2
        rw [if_pos ⟨rfl, rfl⟩]
      rw [h0]; rfl
    · rw [if_neg hij]
      have h0 : pm_rs (pm_setR M o j (some v)) o i = pm_rs M o i := by
        show pm_u2 _ _ _ _ _ _ = _
        unfold pm_u2
        rw [if_neg (fun h => hij h.2)]; rfl
      rw [h0]
      rfl
  · have he : pm_k M o = (1, n') := he
    rw [he] at hk; dsimp only at hk; omega
  · have he : pm_k M o = (2 * c' + 3, n') := he
    rw [he] at hk; dsimp only at hk; omega
/-- iaload -/
theorem pm_ialdW {o : Nat} {i : Int32} (hx : p.tables.exec = Jvm.exec) (hb : c0.code = cc) (hK : pm_K cl acs D cA s) (hR : pm_Pic τ cl acs D cA base M H) (hk : (pm_k M o).1 = 1) (hin : ¬ (i < 0 ∨ (pm_k M o).2 ≤ i.toNatClampNeg)) (hdg : decode cc pc = .ok (.iaload, 1))
    (kk : W p l e R s mi args below meth c0 H locs cells slots Q (F0 mi (pc + 1) la (.int (pm_is M o i.toNatClampNeg) :: rest))) : W p l e R s mi args below meth c0 H locs cells slots Q (F0 mi pc la (.int i :: .ref (base + o) :: rest)) := by
  have hat := (hR.2.2 o).2.1 (pm_k M o).2 (by rw [← hk])
  have hlt : i.toNatClampNeg < (pm_k M o).2 := Nat.not_le.mp fun q => hin (Or.inr q)
  exact W.iald (v := .int (pm_is M o i.toNatClampNeg)) hx hb hat (hK.2.1.1 _ _) (fun q => by cases q) (by rw [arrV_size]; exact hin) (by rw [arrV_read _ _ hlt]) rfl rfl hdg kk
theorem pm_alenW {o : Nat} (hx : p.tables.exec = Jvm.exec) (hb : c0.code = cc) (hK : pm_K cl acs D cA s) (hR : pm_Pic τ cl acs D cA base M H) (hk : (pm_k M o).1 = 1) (hdg : decode cc pc = .ok (.arraylength, 1))
    (kk : W p l e R s mi args below meth c0 H locs cells slots Q (F0 mi (pc + 1) la (.int (Int32.ofNat (pm_k M o).2) :: rest))) : W p l e R s mi args below meth c0 H locs cells slots Q (F0 mi pc la (.ref (base + o) :: rest)) := by
  have hat := (hR.2.2 o).2.1 (pm_k M o).2 (by rw [← hk])
  exact W.alen (n := Int32.ofNat (pm_k M o).2) hx hb hat (hK.2.1.1 _ _) (by rw [arrV_size] <;> rfl) rfl rfl hdg kk
/-- iastore -/
theorem pm_iastW {o : Nat} {i v : Int32} (hx : p.tables.exec = Jvm.exec) (hb : c0.code = cc) (hK : pm_K cl acs D cA s) (hbb : b < base) (hR : pm_Rl τ cl acs D cA base b xl xs s M H locs) (hk : (pm_k M o).1 = 1) (hin : ¬ (i < 0 ∨ (pm_k M o).2 ≤ i.toNatClampNeg)) (hdg : decode cc pc = .ok (.iastore, 1))
    (kk : ∀ (H1 : Heap) (locs1 : List Loc), pm_Rl τ cl acs D cA base b xl xs s (pm_setI M o i.toNatClampNeg v) H1 locs1 → W p l e R s mi args below meth c0 H1 locs1 cells slots Q (F0 mi (pc + 1) la rest)) : W p l e R s mi args below meth c0 H locs cells slots Q (F0 mi pc la (.int v :: .int i :: .ref (base + o) :: rest)) := by
  have hat := (hR.1.2.2 o).2.1 (pm_k M o).2 (by rw [← hk])
  refine W.iast hx hb hat (hK.2.1.1 _ _) (fun q => by cases q) (by rw [arrV_size]; exact hin) rfl rfl hdg fun H' e z oq => ?_
  refine kk H' _ (hR.put hbb z oq rfl (fun _ => rfl) (fun _ _ _ => rfl) (fun a ha j => ?_) ⟨fun c' n' he => ?_, fun n' he => ?_, fun c' n' he => ?_⟩)
  · show pm_u2 _ _ _ _ _ _ = _
    unfold pm_u2
    rw [if_neg (fun h => ha h.1)]; rfl
  · have he : pm_k M o = (2 * c' + 2, n') := he
    rw [he] at hk; dsimp only at hk; omega
  · have he : pm_k M o = (1, n') := he
    obtain rfl : n' = (pm_k M o).2 := by rw [he]
    rw [e, arrV_store]
    refine congrArg some (congrArg (arrV _ _) (funext fun j => ?_))
    show updV _ _ _ _ = Value.int (pm_u2 _ _ _ _ _ _)
    unfold updV pm_u2
    by_cases hj : j = i.toNatClampNeg
    · rw [if_pos hj, if_pos ⟨rfl, hj⟩]
    · rw [if_neg hj, if_neg (fun h => hj h.2)]; rfl
  · have he : pm_k M o = (2 * c' + 3, n') := he
    rw [he] at hk; dsimp only at hk; omega
/-- aaload -/
theorem pm_aaldW {o c : Nat} {i : Int32} (hx : p.tables.exec = Jvm.exec) (hb : c0.code = cc) (hok : pm_ok τ cl acs Rn Ts) (hK : pm_K cl acs D cA s) (hR : pm_Pic τ cl acs D cA base M H) (hk : (pm_k M o).1 = 2 * c + 3) (hin : ¬ (i < 0 ∨ (pm_k M o).2 ≤ i.toNatClampNeg)) (hdg : decode cc pc = .ok (.aaload, 1))
    (kk : W p l e R s mi args below meth c0 H locs cells slots Q (F0 mi (pc + 1) la (pm_sh base b (pm_rv (pm_rs M o i.toNatClampNeg)) :: rest))) : W p l e R s mi args below meth c0 H locs cells slots Q (F0 mi pc la (.int i :: .ref (base + o) :: rest)) := by
  obtain ⟨hac, hat⟩ := (hR.2.2 o).2.2 c (pm_k M o).2 (by rw [← hk])
  obtain ⟨q, hq⟩ := hok.2.2.2.2.2.2.2.1 c hac
  have hlt : i.toNatClampNeg < (pm_k M o).2 := Nat.not_le.mp fun q => hin (Or.inr q)
  rw [pm_sh_rv] at kk
  exact W.aald (v := va_rf ((pm_rs M o i.toNatClampNeg).map (fun o => base + o))) (ty := .object q.1) hx hb hat ((hK.2.2 c hac q hq).1.1 _ _) rfl (fun q => by cases q) (by rw [arrV_size]; exact hin) (by rw [arrV_read _ _ hlt]) rfl rfl hdg kk
/-- aastore -/
theorem pm_aastW {o c v : Nat} {i : Int32} (hx : p.tables.exec = Jvm.exec) (hb : c0.code = cc) (hok : pm_ok τ cl acs Rn Ts) (hK : pm_K cl acs D cA s) (hbb : b < base) (hR : pm_Rl τ cl acs D cA base b xl xs s M H locs) (hk : (pm_k M o).1 = 2 * c + 3) (hin : ¬ (i < 0 ∨ (pm_k M o).2 ≤ i.toNatClampNeg)) (hv : (pm_k M v).1 = 2 * c + 2) (hdg : decode cc pc = .ok (.aastore, 1))
    (kk : ∀ (H1 : Heap) (locs1 : List Loc), pm_Rl τ cl acs D cA base b xl xs s (pm_setR M o i.toNatClampNeg (some v)) H1 locs1 → W p l e R s mi args below meth c0 H1 locs1 cells slots Q (F0 mi (pc + 1) la rest)) : W p l e R s mi args below meth c0 H locs cells slots Q (F0 mi pc la (.ref (base + v) :: .int i :: .ref (base + o) :: rest)) := by
  obtain ⟨hac, hat⟩ := (hR.1.2.2 o).2.2 c (pm_k M o).2 (by rw [← hk])
  obtain ⟨q, hq⟩ := hok.2.2.2.2.2.2.2.1 c hac
  have hlt : i.toNatClampNeg < (pm_k M o).2 := Nat.not_le.mp fun q => hin (Or.inr q)
  have h0 : ¬ i < 0 := fun q => hin (Or.inl q)
  obtain ⟨-, cellV, g1, g2, g3, -⟩ := (hR.1.2.2 v).1 c (pm_k M v).2 (by rw [← hv])
  have hcls := (hK.1.1 c q hq).2
  obtain ⟨kA, comp, k1, k2, k3, -⟩ := (hK.2.2 c hac q hq).1.2
  obtain rfl : comp = D.1 c := Option.some.inj (k3.symm.trans hcls.1)
  have hclsA := hcls
  obtain ⟨-, kC, hkC, -⟩ := hcls
  refine W.aast hx hb hat (fun q h => by cases h) (fun h => by cases h) k1 k2 rfl hkC ⟨h0, by rw [arrV_size]; exact hlt⟩ g1 (fun q h => by rw [g3] at h; cases h) (by rw [g2]; exact hkC) (by rw [g2]; exact va_assign hclsA) rfl rfl hdg fun H' e z oq => ?_
  refine kk H' _ (hR.put hbb z oq rfl (fun _ => rfl) (fun a ha j => ?_) (fun _ _ _ => rfl) ⟨fun c' n' he => ?_, fun n' he => ?_, fun c' n' he => ?_⟩)
  · show pm_u2 _ _ _ _ _ _ = _
    unfold pm_u2
    rw [if_neg (fun h => ha h.1)]; rfl
  · have he : pm_k M o = (2 * c' + 2, n') := he
    rw [he] at hk; dsimp only at hk; omega
  · have he : pm_k M o = (1, n') := he
    rw [he] at hk; dsimp only at hk; omega
  · have he : pm_k M o = (2 * c' + 3, n') := he
    obtain rfl : c' = c := by rw [he] at hk; dsimp only at hk; omega
    obtain rfl : n' = (pm_k M o).2 := by rw [he]
    refine ⟨hac, ?_⟩
    rw [e, arrV_store]
    refine congrArg some (congrArg (arrV _ _) (funext fun j => ?_))
    show updV _ _ _ _ = va_rf (Option.map _ (pm_u2 _ _ _ _ _ _))
    unfold updV pm_u2
    by_cases hj : j = i.toNatClampNeg
    · rw [if_pos hj, if_pos ⟨rfl, hj⟩]; rfl
    · rw [if_neg hj, if_neg (fun h => hj h.2)]; rfl
/-- new -/
theorem pm_newW {c : Nat} (hx : p.tables.exec = Jvm.exec) (hb : c0.code = cc) (hok : pm_ok τ cl acs Rn Ts) (hts : ∀ w ∈ Ts, w.before args s = true) (hown : s.vm.findClass (Rn n) = some mi.cls) (hK : pm_K cl acs D cA s) (hbb : b < base) (hR : pm_Rl τ cl acs D cA base b xl xs s M H locs) (hn : pm_tn τ n x = some c) (hcells : cells + 1 ≤ R.cells) (hslots : slots + pm_tl τ c ≤ R.slots) (hdg : decode cc pc = .ok (.new x, 3))
    (kk : ∀ H1 : Heap, pm_Rl τ cl acs D cA base b xl xs s (pm_new M (2 * c + 2) (pm_tl τ c)) H1 locs → W p l e R s mi args below meth c0 H1 locs (cells + 1) (slots + pm_tl τ c) Q (F0 mi (pc + 3) la (.ref (base + M.1) :: rest))) : W p l e R s mi args below meth c0 H locs cells slots Q (F0 mi pc la rest) := by
  obtain ⟨q, hq, hl, h1, h2, h3⟩ := hok.2.2.2.2.1 n x c hn
  obtain ⟨hRn, hin, hnm, ty, hty, hso⟩ := hok.2.1 c q hq
  have hKn := hK.1.1 c _ hq
  rw [hl] at hslots kk
  refine W.newcK hx hb hown (hts _ h1) (hts _ h2) (hts _ h3) rfl hdg hcells hslots hKn.2.1 hR.1.1 fun H1 kC hkC e1 z1 o1 => ?_
  refine kk H1 (hR.new hbb (by rw [z1, hR.1.1]) (fun q hq => o1 q (by rw [← hR.1.1]; exact hq)) ⟨fun c' n' he => ?_, fun n' he => ?_, fun c' n' he => ?_⟩)
  · rw [pm_new_k, if_pos rfl] at he
    have he1 : 2 * c + 2 = 2 * c' + 2 := congrArg Prod.fst he
    have he2 : q.2.2 = n' := congrArg Prod.snd he
    obtain rfl : c' = c := by omega
    subst he2
    refine ⟨⟨q, hq, rfl⟩, (u_born ty hts hin hKn hkC e1 hty).to fun j hj => ?_⟩
    rw [pm_new_r, if_pos rfl, pm_new_i, if_pos rfl]
    rcases hso j hj with ⟨h, h', -⟩ | ⟨h, h', -⟩ | ⟨h, h', -⟩
    · rw [h, h']; rfl
    · rw [h, h']; rfl
    · rw [if_pos h]
      rcases h' with ⟨z, h'⟩ | ⟨z, h'⟩ <;> rw [h'] <;> rfl
  · rw [pm_new_k, if_pos rfl] at he
    cases he
  · rw [pm_new_k, if_pos rfl] at he
    have : 2 * c + 2 = 2 * c' + 3 := congrArg Prod.fst he
    omega
/-- newarray of ints -/
theorem pm_newaW {i : Int32} (hx : p.tables.exec = Jvm.exec) (hb : c0.code = cc) (hok : pm_ok τ cl acs Rn Ts) (hts : ∀ w ∈ Ts, w.before args s = true) (hK : pm_K cl acs D cA s) (hbb : b < base) (hR : pm_Rl τ cl acs D cA base b xl xs s M H locs) (hn : ¬ i < 0) (hN : i.toNatClampNeg ≤ 100000) (hcells : cells + 1 ≤ R.cells) (hslots : slots + i.toNatClampNeg ≤ R.slots) (hdg : decode cc pc = .ok (.newarray .int, 2))
    (kk : ∀ H1 : Heap, pm_Rl τ cl acs D cA base b xl xs s (pm_new M 1 i.toNatClampNeg) H1 locs → W p l e R s mi args below meth c0 H1 locs (cells + 1) (slots + i.toNatClampNeg) Q (F0 mi (pc + 2) la (.ref (base + M.1) :: rest))) : W p l e R s mi args below meth c0 H locs cells slots Q (F0 mi pc la (.int i :: rest)) := by
  refine va_newaK (atype := .int) hx hb (hts _ hok.2.2.2.2.2.2.1) rfl hdg rfl hn rfl (by show _ * 4 ≤ _; omega) hcells hslots hR.1.1 fun H1 c e1 z1 o1 hAr hNm => ?_
  have hc : c = cA 1 := Option.some.inj (hNm.symm.trans hK.2.1.2)
  refine kk H1 (hR.new hbb (by rw [z1, hR.1.1]) (fun q hq => o1 q (by rw [← hR.1.1]; exact hq)) ⟨fun c' n' he => ?_, fun n' he => ?_, fun c' n' he => ?_⟩)
  · rw [pm_new_k, if_pos rfl] at he
    have : 1 = 2 * c' + 2 := congrArg Prod.fst he
    omega
  · rw [pm_new_k, if_pos rfl] at he
    cases he
    rw [e1, hc]
    refine congrArg some (congrArg (arrV _ _) (funext fun j => ?_))
    rw [pm_new_i, if_pos rfl]
    rfl
  · rw [pm_new_k, if_pos rfl] at he
    have : 1 = 2 * c' + 3 := congrArg Prod.fst he
    omega
/-- anewarray -/
theorem pm_anewW {c : Nat} {i : Int32} (hx : p.tables.exec = Jvm.exec) (hb : c0.code = cc) (hok : pm_ok τ cl acs Rn Ts) (hts : ∀ w ∈ Ts, w.before args s = true) (hown : s.vm.findClass (Rn n) = some mi.cls) (hK : pm_K cl acs D cA s) (hbb : b < base) (hR : pm_Rl τ cl acs D cA base b xl xs s M H locs) (ha : pm_ta τ n x = some c) (hn : ¬ i < 0) (hN : i.toNatClampNeg ≤ 100000) (hcells : cells + 1 ≤ R.cells) (hslots : slots + i.toNatClampNeg ≤ R.slots) (hdg : decode cc pc = .ok (.anewarray x, 3))
    (kk : ∀ H1 : Heap, pm_Rl τ cl acs D cA base b xl xs s (pm_new M (2 * c + 3) i.toNatClampNeg) H1 locs → W p l e R s mi args below meth c0 H1 locs (cells + 1) (slots + i.toNatClampNeg) Q (F0 mi (pc + 3) la (.ref (base + M.1) :: rest))) : W p l e R s mi args below meth c0 H locs cells slots Q (F0 mi pc la (.int i :: rest)) := by
  obtain ⟨hac, q, hq, h1⟩ := hok.2.2.2.2.2.1 n x c ha
  obtain ⟨⟨hAr, hRA⟩, hAO⟩ := hK.2.2 c hac q hq
  obtain ⟨kA', comp', k1, k2, k3, k4⟩ := hRA
  refine W.anew hx hb hown (hts _ h1) (va_AO.use hAO) rfl hdg rfl hn (by omega) hcells hslots fun ca kA comp f1 f2 f3 f4 => ?_
  have hc : ca = cA (2 * c + 3) := Option.some.inj (f1.symm.trans k4)
  generalize hH1 : H.push ({ cls := ca, slots := Array.replicate i.toNatClampNeg .null, vm := .none } : Cell) = H1
  have z1 : H1.size = H.size + 1 := by rw [← hH1, Array.size_push]
  have e1 : H1[H.size]? = some (arrV ca i.toNatClampNeg (fun _ => .null)) := by rw [← hH1, Array.getElem?_push_size, ← arrV_new]
  have o1 : ∀ q : Nat, q < H.size → H1[q]? = H[q]? := fun q hq => by rw [← hH1, Array.getElem?_push, if_neg (Nat.ne_of_lt hq)]
  have hat : pm_at τ cl acs D cA base (pm_new M (2 * c + 3) i.toNatClampNeg) H1 M.1 := by
    refine ⟨fun c' n' he => ?_, fun n' he => ?_, fun c' n' he => ?_⟩
    · rw [pm_new_k, if_pos rfl] at he
      have : 2 * c + 3 = 2 * c' + 2 := congrArg Prod.fst he
      omega
    · rw [pm_new_k, if_pos rfl] at he
      have : 2 * c + 3 = 1 := congrArg Prod.fst he
      omega
    · rw [pm_new_k, if_pos rfl] at he
      have he1 : 2 * c + 3 = 2 * c' + 3 := congrArg Prod.fst he
      have he2 : i.toNatClampNeg = n' := congrArg Prod.snd he
      obtain rfl : c' = c := by omega
      subst he2
      refine ⟨hac, ?_⟩
      rw [← hR.1.1, e1, hc]
      refine congrArg some (congrArg (arrV _ _) (funext fun j => ?_))
      rw [pm_new_r, if_pos rfl]
      rfl
  have kk1 := kk H1 (hR.new hbb z1 o1 hat)
  rw [← hR.1.1] at kk1
  exact kk1
end PMR
end
section
/-! one instruction of the pure machine, on the real one -/
theorem pm_bin_spec {f : Int32 → Int32 → Int32} {st q : List Value} (h : pm_bin f st = some q) : ∃ x y rest, st = .int y :: .int x :: rest ∧ q = .int (f x y) :: rest := by
  unfold pm_bin at h
  split at h
  · cases h; exact ⟨_, _, _, rfl, rfl⟩
  · cases h
theorem pm_ldi_spec {ls : pm_L} {k : Nat} {x : Int32} (h : pm_ldi ls k = some x) : ls[k]? = some (some (.int x)) := by
  unfold pm_ldi at h
  split at h
  · rename_i hx; cases h; exact hx
  · cases h
theorem pm_lda_spec {ls : pm_L} {k : Nat} {v : Value} (base b : Nat) (h : pm_lda ls k = some v) : ls[k]? = some (some v) ∧ ∃ a, pm_sh base b v = .ref a := by
  unfold pm_lda at h
  split at h
  · rename_i hx; cases h; exact ⟨hx, _, rfl⟩
  · rename_i hx; cases h; exact ⟨hx, _, rfl⟩
  · cases h
theorem pm_sti_spec {ls : pm_L} {k : Nat} {st : List Value} {q : pm_L × List Value} (h : pm_sti ls k st = some q) : ∃ x rest, st = .int x :: rest ∧ k < ls.length ∧ q = (ls.set k (some (.int x)), rest) := by
  unfold pm_sti at h
  split at h
  · split at h
    · rename_i hk; cases h; exact ⟨_, _, rfl, hk, rfl⟩
    · cases h
  · cases h
theorem pm_sta_spec {ls : pm_L} {k : Nat} {st : List Value} {q : pm_L × List Value} (h : pm_sta ls k st = some q) : ∃ a rest, st = .ref a :: rest ∧ k < ls.length ∧ q = (ls.set k (some (.ref a)), rest) := by
  unfold pm_sta at h
  split at h
  · split at h
    · rename_i hk; cases h; exact ⟨_, _, rfl, hk, rfl⟩
    · cases h
  · cases h
theorem pm_jmp_spec {pc t : Nat} {off : Int} (h : pm_jmp pc off = some t) : (pc : Int) + off = (t : Int) := by
  unfold pm_jmp at h
  split at h
  · cases h; omega
  · cases h
section PMN
variable {p : Program} {l : Launch} {e : Env} {R : Room} {s : State} {mi : MethodId} {args : Array Value} {below : List Frame} {meth : Method} {c0 : Code} {H : Heap} {locs : List Loc} {cells slots : Nat} {Q : State → Prop}
variable {la : Array Slot}
variable {τ : pm_T} {cl : List vw_C} {acs : List Nat} {Rn : Nat → String} {Ts : List Jvm.Cond} {D : va_G} {cA : Nat → ClassId} {base b xl : Nat} {xs : Nat → Int32}
set_option maxHeartbeats 4000000 in
theorem pm_nxW {m : pm_M} {pc pc' len : Nat} {ls ls' : pm_L} {st st' : List Value} {M M' : pm_H} {i : Instr}
    (hx : p.tables.exec = Jvm.exec) (hb : c0.code = pm_b m) (hok : pm_ok τ cl acs Rn Ts) (hts : ∀ w ∈ Ts, w.before args s = true) (hown : s.vm.findClass (Rn (pm_n m)) = some mi.cls) (hname : meth.name = (pm_y m).name) (hml : c0.maxLocals = pm_l m) (hRf : R.frames = pm_f m) (hRo : R.locals = pm_o m) (hK : pm_K cl acs D cA s) (hbb : b < base)
    (hd : decode (pm_b m) pc = .ok (i, len)) (hln : pm_ln i len = true) (hn : pm_nx τ m xl xs pc ls st M i = some (pc', ls', st', M')) (hR : pm_Rl τ cl acs D cA base b xl xs s M H locs) (hl : lv_has la (pm_l m) (pm_as base b ls)) (hlen : ls.length = pm_l m) (hcell : cells + (M'.1 - M.1) ≤ R.cells) (hslot : slots + (M'.2.1 - M.2.1) ≤ R.slots)
    (kk : ∀ (H1 : Heap) (locs1 : List Loc) (la1 : Array Slot), pm_Rl τ cl acs D cA base b xl xs s M' H1 locs1 → lv_has la1 (pm_l m) (pm_as base b ls') → ls'.length = pm_l m → W p l e R s mi args below meth c0 H1 locs1 (cells + (M'.1 - M.1)) (slots + (M'.2.1 - M.2.1)) Q (F0 mi pc' la1 (st'.map (pm_sh base b)))) :
    W p l e R s mi args below meth c0 H locs cells slots Q (F0 mi pc la (st.map (pm_sh base b))) := by
  have kk0 : M' = M → ∀ la1 : Array Slot, lv_has la1 (pm_l m) (pm_as base b ls') → ls'.length = pm_l m → W p l e R s mi args below meth c0 H locs cells slots Q (F0 mi pc' la1 (st'.map (pm_sh base b))) := by
    rintro rfl la1 h1 h2
    have := kk H locs la1 hR h1 h2
    rwa [Nat.sub_self, Nat.sub_self, Nat.add_zero, Nat.add_zero] at this
  have kk1 : M'.1 = M.1 → M'.2.1 = M.2.1 → ls' = ls → ∀ (H1 : Heap) (locs1 : List Loc), pm_Rl τ cl acs D cA base b xl xs s M' H1 locs1 → W p l e R s mi args below meth c0 H1 locs1 cells slots Q (F0 mi pc' la (st'.map (pm_sh base b))) := by
    rintro e1 e2 rfl H1 locs1 h1
    have := kk H1 locs1 la h1 hl hlen
    rwa [e1, e2, Nat.sub_self, Nat.sub_self, Nat.add_zero, Nat.add_zero] at this
  cases i with
  | iconst n =>
    obtain rfl : len = 1 := by simpa [pm_ln] using hln
    simp only [pm_nx, Option.some.injEq, Prod.mk.injEq] at hn
    obtain ⟨rfl, rfl, rfl, rfl⟩ := hn
    exact lv_iconst hx hb hd rfl (kk0 rfl la hl hlen)
  | bipush n =>
    obtain rfl : len = 2 := by simpa [pm_ln] using hln
    simp only [pm_nx, Option.some.injEq, Prod.mk.injEq] at hn
    obtain ⟨rfl, rfl, rfl, rfl⟩ := hn
    exact lv_bipush hx hb hd rfl (kk0 rfl la hl hlen)
  | sipush n =>
    obtain rfl : len = 3 := by simpa [pm_ln] using hln
    simp only [pm_nx, Option.some.injEq, Prod.mk.injEq] at hn
    obtain ⟨rfl, rfl, rfl, rfl⟩ := hn
    exact lv_sipush hx hb hd rfl (kk0 rfl la hl hlen)
  | ldc x =>
    obtain rfl : len = 2 := by simpa [pm_ln] using hln
    simp only [pm_nx, Option.bind_eq_some_iff, Option.some.injEq, Prod.mk.injEq] at hn
    obtain ⟨v, hv, rfl, rfl, rfl, rfl⟩ := hn
    exact lv_ldc hx hb hown (hts _ (hok.2.2.2.1 _ _ _ hv)) hd (kk0 rfl la hl hlen)
  | ldc_w x =>
    obtain rfl : len = 3 := by simpa [pm_ln] using hln
    simp only [pm_nx, Option.bind_eq_some_iff, Option.some.injEq, Prod.mk.injEq] at hn
    obtain ⟨v, hv, rfl, rfl, rfl, rfl⟩ := hn
    exact lv_ldcw hx hb hown (hts _ (hok.2.2.2.1 _ _ _ hv)) hd (kk0 rfl la hl hlen)
  | iload_n k =>
    obtain rfl : len = 1 := by simpa [pm_ln] using hln
    simp only [pm_nx, Option.bind_eq_some_iff, Option.some.injEq, Prod.mk.injEq] at hn
    obtain ⟨v, hv, rfl, rfl, rfl, rfl⟩ := hn
    exact lv_iload_n hx hb hd rfl (pm_as_at hl (pm_ldi_spec hv)) (kk0 rfl la hl hlen)
  | iload k =>
    obtain rfl : len = 2 := by simpa [pm_ln] using hln
    simp only [pm_nx, Option.bind_eq_some_iff, Option.some.injEq, Prod.mk.injEq] at hn
    obtain ⟨v, hv, rfl, rfl, rfl, rfl⟩ := hn
    exact lv_iload hx hb hd (pm_as_at hl (pm_ldi_spec hv)) (kk0 rfl la hl hlen)
  | aload_n k =>
    obtain rfl : len = 1 := by simpa [pm_ln] using hln
    simp only [pm_nx, Option.bind_eq_some_iff, Option.some.injEq, Prod.mk.injEq] at hn
    obtain ⟨v, hv, rfl, rfl, rfl, rfl⟩ := hn
    obtain ⟨h1, a, h2⟩ := pm_lda_spec base b hv
    have h3 := pm_as_at hl h1
    have h4 := kk0 rfl la hl hlen
    rw [List.map_cons, h2] at h4
    rw [h2] at h3
    exact lv_aload_n hx hb hd rfl h3 h4
  | aload k =>
    obtain rfl : len = 2 := by simpa [pm_ln] using hln
    simp only [pm_nx, Option.bind_eq_some_iff, Option.some.injEq, Prod.mk.injEq] at hn
    obtain ⟨v, hv, rfl, rfl, rfl, rfl⟩ := hn
    obtain ⟨h1, a, h2⟩ := pm_lda_spec base b hv
    have h3 := pm_as_at hl h1
    have h4 := kk0 rfl la hl hlen
    rw [List.map_cons, h2] at h4
    rw [h2] at h3
    exact lv_aload hx hb hd h3 h4
  | istore_n k =>
    obtain rfl : len = 1 := by simpa [pm_ln] using hln
    simp only [pm_nx, Option.bind_eq_some_iff, Option.some.injEq, Prod.mk.injEq] at hn
    obtain ⟨q, hv, rfl, rfl, rfl, rfl⟩ := hn
    obtain ⟨x, rest, rfl, h1, rfl⟩ := pm_sti_spec hv
    exact lv_istore_n hx hb hd rfl hl (by rw [← hlen]; exact h1) rfl fun la1 h2 => kk0 rfl la1 (pm_as_set (v := .int x) h2) (by simpa using hlen)
  | istore k =>
    obtain rfl : len = 2 := by simpa [pm_ln] using hln
    simp only [pm_nx, Option.bind_eq_some_iff, Option.some.injEq, Prod.mk.injEq] at hn
    obtain ⟨q, hv, rfl, rfl, rfl, rfl⟩ := hn
    obtain ⟨x, rest, rfl, h1, rfl⟩ := pm_sti_spec hv
    exact lv_istore hx hb hd hl (by rw [← hlen]; exact h1) rfl fun la1 h2 => kk0 rfl la1 (pm_as_set (v := .int x) h2) (by simpa using hlen)
  | astore_n k =>
    obtain rfl : len = 1 := by simpa [pm_ln] using hln
    simp only [pm_nx, Option.bind_eq_some_iff, Option.some.injEq, Prod.mk.injEq] at hn
    obtain ⟨q, hv, rfl, rfl, rfl, rfl⟩ := hn
    obtain ⟨x, rest, rfl, h1, rfl⟩ := pm_sta_spec hv
    exact lv_astore_n hx hb hd rfl hl (by rw [← hlen]; exact h1) rfl fun la1 h2 => kk0 rfl la1 (pm_as_set (v := .ref x) h2) (by simpa using hlen)
  | astore k =>
    obtain rfl : len = 2 := by simpa [pm_ln] using hln
    simp only [pm_nx, Option.bind_eq_some_iff, Option.some.injEq, Prod.mk.injEq] at hn
    obtain ⟨q, hv, rfl, rfl, rfl, rfl⟩ := hn
    obtain ⟨x, rest, rfl, h1, rfl⟩ := pm_sta_spec hv
    exact lv_astore hx hb hd hl (by rw [← hlen]; exact h1) rfl fun la1 h2 => kk0 rfl la1 (pm_as_set (v := .ref x) h2) (by simpa using hlen)
  | iinc k n =>
    obtain rfl : len = 3 := by simpa [pm_ln] using hln
    simp only [pm_nx, Option.bind_eq_some_iff] at hn
    obtain ⟨x, hv, hn⟩ := hn
    split at hn
    · rename_i hk
      simp only [Option.some.injEq, Prod.mk.injEq] at hn
      obtain ⟨rfl, rfl, rfl, rfl⟩ := hn
      obtain ⟨j, hj⟩ := List.getElem?_of_mem (pm_as_mem.mpr ⟨_, pm_ldi_spec hv, rfl⟩ : (k, pm_sh base b (.int x)) ∈ pm_as base b ls)
      exact lv_iinc hx hb hd hl hj rfl (by rw [← hlen]; exact hk) rfl fun la1 h2 => kk0 rfl la1 (pm_as_set (v := .int (x + Int32.ofInt n)) h2) (by simpa using hlen)
    · cases hn
  | iadd =>
    obtain rfl : len = 1 := by simpa [pm_ln] using hln
    simp only [pm_nx, Option.bind_eq_some_iff, Option.some.injEq, Prod.mk.injEq] at hn
    obtain ⟨q, hv, rfl, rfl, rfl, rfl⟩ := hn
    obtain ⟨x, y, rest, rfl, rfl⟩ := pm_bin_spec hv
    exact lv_iadd hx hb hd (kk0 rfl la hl hlen)
  | isub =>
    obtain rfl : len = 1 := by simpa [pm_ln] using hln
    simp only [pm_nx, Option.bind_eq_some_iff, Option.some.injEq, Prod.mk.injEq] at hn
    obtain ⟨q, hv, rfl, rfl, rfl, rfl⟩ := hn
    obtain ⟨x, y, rest, rfl, rfl⟩ := pm_bin_spec hv
    exact lv_isub hx hb hd (kk0 rfl la hl hlen)
  | imul =>
    obtain rfl : len = 1 := by simpa [pm_ln] using hln
    simp only [pm_nx, Option.bind_eq_some_iff, Option.some.injEq, Prod.mk.injEq] at hn
    obtain ⟨q, hv, rfl, rfl, rfl, rfl⟩ := hn
    obtain ⟨x, y, rest, rfl, rfl⟩ := pm_bin_spec hv
    exact lv_imul hx hb hd (kk0 rfl la hl hlen)
  | iand =>
    obtain rfl : len = 1 := by simpa [pm_ln] using hln
    simp only [pm_nx, Option.bind_eq_some_iff, Option.some.injEq, Prod.mk.injEq] at hn
    obtain ⟨q, hv, rfl, rfl, rfl, rfl⟩ := hn
    obtain ⟨x, y, rest, rfl, rfl⟩ := pm_bin_spec hv
    exact lv_iand hx hb hd (kk0 rfl la hl hlen)
  | ior =>
    obtain rfl : len = 1 := by simpa [pm_ln] using hln
    simp only [pm_nx, Option.bind_eq_some_iff, Option.some.injEq, Prod.mk.injEq] at hn
    obtain ⟨q, hv, rfl, rfl, rfl, rfl⟩ := hn
    obtain ⟨x, y, rest, rfl, rfl⟩ := pm_bin_spec hv
    exact lv_ior hx hb hd (kk0 rfl la hl hlen)
  | ishl =>
    obtain rfl : len = 1 := by simpa [pm_ln] using hln
    simp only [pm_nx, Option.bind_eq_some_iff, Option.some.injEq, Prod.mk.injEq] at hn
    obtain ⟨q, hv, rfl, rfl, rfl, rfl⟩ := hn
    obtain ⟨x, y, rest, rfl, rfl⟩ := pm_bin_spec hv
    exact lv_ishl hx hb hd (kk0 rfl la hl hlen)
  | ishr =>
    obtain rfl : len = 1 := by simpa [pm_ln] using hln
    simp only [pm_nx, Option.bind_eq_some_iff, Option.some.injEq, Prod.mk.injEq] at hn
    obtain ⟨q, hv, rfl, rfl, rfl, rfl⟩ := hn
    obtain ⟨x, y, rest, rfl, rfl⟩ := pm_bin_spec hv
    exact lv_ishr hx hb hd (kk0 rfl la hl hlen)
  | iushr =>
    obtain rfl : len = 1 := by simpa [pm_ln] using hln
    simp only [pm_nx, Option.bind_eq_some_iff, Option.some.injEq, Prod.mk.injEq] at hn
    obtain ⟨q, hv, rfl, rfl, rfl, rfl⟩ := hn
    obtain ⟨x, y, rest, rfl, rfl⟩ := pm_bin_spec hv
    exact lv_iushr hx hb hd rfl (kk0 rfl la hl hlen)
  | idiv =>
    obtain rfl : len = 1 := by simpa [pm_ln] using hln
    simp only [pm_nx] at hn
    split at hn
    · split at hn
      · cases hn
      · rename_i hy
        simp only [Option.some.injEq, Prod.mk.injEq] at hn
        obtain ⟨rfl, rfl, rfl, rfl⟩ := hn
        exact lv_idiv hx hb hd hy (kk0 rfl la hl hlen)
    · cases hn
  | irem =>
    obtain rfl : len = 1 := by simpa [pm_ln] using hln
    simp only [pm_nx] at hn
    split at hn
    · split at hn
      · cases hn
      · rename_i hy
        simp only [Option.some.injEq, Prod.mk.injEq] at hn
        obtain ⟨rfl, rfl, rfl, rfl⟩ := hn
        exact lv_irem hx hb hd hy (kk0 rfl la hl hlen)
    · cases hn
  | dup =>
    obtain rfl : len = 1 := by simpa [pm_ln] using hln
    simp only [pm_nx] at hn
    split at hn
    · simp only [Option.some.injEq, Prod.mk.injEq] at hn
      obtain ⟨rfl, rfl, rfl, rfl⟩ := hn
      exact lv_dup hx hb hd (pm_sh_cat _ _ _) (kk0 rfl la hl hlen)
    · cases hn
  | dup2 =>
    obtain rfl : len = 1 := by simpa [pm_ln] using hln
    simp only [pm_nx] at hn
    split at hn
    · simp only [Option.some.injEq, Prod.mk.injEq] at hn
      obtain ⟨rfl, rfl, rfl, rfl⟩ := hn
      exact lv_dup2_11 hx hb hd (pm_sh_cat _ _ _) (pm_sh_cat _ _ _) (kk0 rfl la hl hlen)
    · cases hn
  | pop =>
    obtain rfl : len = 1 := by simpa [pm_ln] using hln
    simp only [pm_nx] at hn
    split at hn
    · simp only [Option.some.injEq, Prod.mk.injEq] at hn
      obtain ⟨rfl, rfl, rfl, rfl⟩ := hn
      exact lv_pop hx hb hd (pm_sh_cat _ _ _) (kk0 rfl la hl hlen)
    · cases hn
  | goto off =>
    obtain rfl : len = 3 := by simpa [pm_ln] using hln
    simp only [pm_nx, Option.bind_eq_some_iff, Option.some.injEq, Prod.mk.injEq] at hn
    obtain ⟨t, ht, rfl, rfl, rfl, rfl⟩ := hn
    exact lv_goto hx hb hd (pm_jmp_spec ht) (kk0 rfl la hl hlen)
  | ifCond c off =>
    obtain rfl : len = 3 := by simpa [pm_ln] using hln
    simp only [pm_nx] at hn
    split at hn
    · simp only [Option.bind_eq_some_iff, Option.some.injEq, Prod.mk.injEq] at hn
      obtain ⟨t, ht, rfl, rfl, rfl, rfl⟩ := hn
      have ht := pm_jmp_spec ht
      have k0 := kk0 rfl la hl hlen
      cases c with
      | eq => exact lv_if_eq hx hb hd ht (fun h => by rw [if_pos (by simpa [pm_cmp] using h)] at k0; exact k0) (fun h => by rw [if_neg (by simpa [pm_cmp] using h)] at k0; exact k0)
      | ne => exact lv_if_ne hx hb hd ht (fun h => by rw [if_pos (by simpa [pm_cmp] using h)] at k0; exact k0) (fun h => by rw [if_neg (by simpa [pm_cmp] using h)] at k0; exact k0)
      | lt => exact lv_if_lt hx hb hd ht (fun h => by rw [if_pos (by simpa [pm_cmp] using h)] at k0; exact k0) (fun h => by rw [if_neg (by simpa [pm_cmp] using h)] at k0; exact k0)
      | ge => exact lv_if_ge hx hb hd ht (fun h => by rw [if_pos (by simpa [pm_cmp] using h)] at k0; exact k0) (fun h => by rw [if_neg (by simpa [pm_cmp] using h)] at k0; exact k0)
      | gt => exact lv_if_gt hx hb hd ht (fun h => by rw [if_pos (by simpa [pm_cmp] using h)] at k0; exact k0) (fun h => by rw [if_neg (by simpa [pm_cmp] using h)] at k0; exact k0)
      | le => exact lv_if_le hx hb hd ht (fun h => by rw [if_pos (by simpa [pm_cmp] using h)] at k0; exact k0) (fun h => by rw [if_neg (by simpa [pm_cmp] using h)] at k0; exact k0)
    · cases hn
  | if_icmp c off =>
    obtain rfl : len = 3 := by simpa [pm_ln] using hln
    simp only [pm_nx] at hn
    split at hn
    · simp only [Option.bind_eq_some_iff, Option.some.injEq, Prod.mk.injEq] at hn
      obtain ⟨t, ht, rfl, rfl, rfl, rfl⟩ := hn
      have ht := pm_jmp_spec ht
      have k0 := kk0 rfl la hl hlen
      cases c with
      | eq => exact lv_icmp_eq hx hb hd ht (fun h => by rw [if_pos (by simpa [pm_cmp] using h)] at k0; exact k0) (fun h => by rw [if_neg (by simpa [pm_cmp] using h)] at k0; exact k0)
      | ne => exact lv_icmp_ne hx hb hd ht (fun h => by rw [if_pos (by simpa [pm_cmp] using h)] at k0; exact k0) (fun h => by rw [if_neg (by simpa [pm_cmp] using h)] at k0; exact k0)
      | lt => exact lv_icmp_lt hx hb hd ht (fun h => by rw [if_pos (by simpa [pm_cmp] using h)] at k0; exact k0) (fun h => by rw [if_neg (by simpa [pm_cmp] using h)] at k0; exact k0)
      | ge => exact lv_icmp_ge hx hb hd ht (fun h => by rw [if_pos (by simpa [pm_cmp] using h)] at k0; exact k0) (fun h => by rw [if_neg (by simpa [pm_cmp] using h)] at k0; exact k0)
      | gt => exact lv_icmp_gt hx hb hd ht (fun h => by rw [if_pos (by simpa [pm_cmp] using h)] at k0; exact k0) (fun h => by rw [if_neg (by simpa [pm_cmp] using h)] at k0; exact k0)
      | le => exact lv_icmp_le hx hb hd ht (fun h => by rw [if_pos (by simpa [pm_cmp] using h)] at k0; exact k0) (fun h => by rw [if_neg (by simpa [pm_cmp] using h)] at k0; exact k0)
    · cases hn
  | tableswitch dflt lo hi offs =>
    simp only [pm_nx] at hn
    split at hn
    · simp only [Option.bind_eq_some_iff, Option.some.injEq, Prod.mk.injEq] at hn
      obtain ⟨off, ho, t, ht, rfl, rfl, rfl, rfl⟩ := hn
      have ht := pm_jmp_spec ht
      split at ho
      · rename_i h
        cases ho
        exact lv_tableOut hx hb hd h ht (kk0 rfl la hl hlen)
      · rename_i h
        exact lv_tableIn hx hb hd (fun h' => h (Or.inl h')) (fun h' => h (Or.inr h')) ho ht (kk0 rfl la hl hlen)
    · cases hn
  | getfield x =>
    obtain rfl : len = 3 := by simpa [pm_ln] using hln
    simp only [pm_nx, Option.bind_eq_some_iff] at hn
    obtain ⟨⟨c, j⟩, hf, hn⟩ := hn
    split at hn
    · split at hn
      · rename_i hk
        simp only [Option.some.injEq, Prod.mk.injEq] at hn
        obtain ⟨rfl, rfl, rfl, rfl⟩ := hn
        exact pm_getW hx hb hok hts hown hK hR.1 hf hk hd (kk0 rfl la hl hlen)
      · cases hn
    · cases hn
  | putfield x =>
    obtain rfl : len = 3 := by simpa [pm_ln] using hln
    simp only [pm_nx, Option.bind_eq_some_iff] at hn
    obtain ⟨⟨c, j⟩, hf, hn⟩ := hn
    split at hn
    · split at hn
      · rename_i hk
        simp only [Option.some.injEq, Prod.mk.injEq] at hn
        obtain ⟨rfl, rfl, rfl, rfl⟩ := hn
        exact pm_putIW hx hb hok hts hown hK hbb hR hf hk.1 hk.2 hd (kk1 rfl rfl rfl)
      · cases hn
    · split at hn
      · rename_i hk
        simp only [Option.some.injEq, Prod.mk.injEq] at hn
        obtain ⟨rfl, rfl, rfl, rfl⟩ := hn
        exact pm_putRW hx hb hok hts hown (hname.trans hk.2.2.1) hk.2.2.2 hK hbb hR hf hk.1 hk.2.1 hd (kk1 rfl rfl rfl)
      · cases hn
    · cases hn
  | iaload =>
    obtain rfl : len = 1 := by simpa [pm_ln] using hln
    simp only [pm_nx] at hn
    split at hn
    · split at hn
      · rename_i hk
        simp only [Option.some.injEq, Prod.mk.injEq] at hn
        obtain ⟨rfl, rfl, rfl, rfl⟩ := hn
        exact pm_ialdW hx hb hK hR.1 hk.1 hk.2 hd (kk0 rfl la hl hlen)
      · cases hn
    · split at hn
      · cases hn
      · rename_i hk
        simp only [Option.some.injEq, Prod.mk.injEq] at hn
        obtain ⟨rfl, rfl, rfl, rfl⟩ := hn
        obtain ⟨scr, h1, h2, h3, h4, h5⟩ := hR.2.1
        have hlt := Nat.not_le.mp fun q => hk (Or.inr q)
        exact W.iald hx hb h1 h2 h3 (by rw [h4]; exact hk) (h5 _ hlt) rfl rfl hd (kk0 rfl la hl hlen)
    · cases hn
  | iastore =>
    obtain rfl : len = 1 := by simpa [pm_ln] using hln
    simp only [pm_nx] at hn
    split at hn
    · split at hn
      · rename_i hk
        simp only [Option.some.injEq, Prod.mk.injEq] at hn
        obtain ⟨rfl, rfl, rfl, rfl⟩ := hn
        exact pm_iastW hx hb hK hbb hR hk.1 hk.2 hd (kk1 rfl rfl rfl)
      · cases hn
    · cases hn
  | aaload =>
    obtain rfl : len = 1 := by simpa [pm_ln] using hln
    simp only [pm_nx] at hn
    split at hn
    · split at hn
      · rename_i o rest hk
        simp only [Option.some.injEq, Prod.mk.injEq] at hn
        obtain ⟨rfl, rfl, rfl, rfl⟩ := hn
        exact pm_aaldW (c := ((pm_k M o).1 - 3) / 2) hx hb hok hK hR.1 (by omega) hk.2.2 hd (kk0 rfl la hl hlen)
      · cases hn
    · cases hn
  | aastore =>
    obtain rfl : len = 1 := by simpa [pm_ln] using hln
    simp only [pm_nx] at hn
    split at hn
    · split at hn
      · rename_i v i o rest hk
        simp only [Option.some.injEq, Prod.mk.injEq] at hn
        obtain ⟨rfl, rfl, rfl, rfl⟩ := hn
        exact pm_aastW (c := ((pm_k M o).1 - 3) / 2) hx hb hok hK hbb hR (by omega) hk.2.2.1 (by omega) hd (kk1 rfl rfl rfl)
      · cases hn
    · cases hn
  | arraylength =>
    obtain rfl : len = 1 := by simpa [pm_ln] using hln
    simp only [pm_nx] at hn
    split at hn
    · simp only [Option.some.injEq, Prod.mk.injEq] at hn
      obtain ⟨rfl, rfl, rfl, rfl⟩ := hn
      obtain ⟨scr, h1, h2, h3, h4, h5⟩ := hR.2.1
      exact W.alen hx hb h1 h2 (by rw [h4] <;> rfl) rfl rfl hd (kk0 rfl la hl hlen)
    · split at hn
      · rename_i hk
        simp only [Option.some.injEq, Prod.mk.injEq] at hn
        obtain ⟨rfl, rfl, rfl, rfl⟩ := hn
        exact pm_alenW hx hb hK hR.1 hk hd (kk0 rfl la hl hlen)
      · cases hn
    · cases hn
  | new x =>
    obtain rfl : len = 3 := by simpa [pm_ln] using hln
    simp only [pm_nx, Option.bind_eq_some_iff, Option.some.injEq, Prod.mk.injEq] at hn
    obtain ⟨c, hc, rfl, rfl, rfl, rfl⟩ := hn
    have e1 : (pm_new M (2 * c + 2) (pm_tl τ c)).1 - M.1 = 1 := by show M.1 + 1 - M.1 = 1; omega
    have e2 : (pm_new M (2 * c + 2) (pm_tl τ c)).2.1 - M.2.1 = pm_tl τ c := by show M.2.1 + _ - M.2.1 = _; omega
    rw [e1] at hcell kk
    rw [e2] at hslot kk
    exact pm_newW hx hb hok hts hown hK hbb hR hc hcell hslot hd fun H1 h1 => kk H1 locs la h1 hl hlen
  | newarray t =>
    obtain rfl : len = 2 := by simpa [pm_ln] using hln
    simp only [pm_nx] at hn
    split at hn
    · split at hn
      · rename_i n rest hk
        simp only [Option.some.injEq, Prod.mk.injEq] at hn
        obtain ⟨rfl, rfl, rfl, rfl⟩ := hn
        obtain ⟨rfl, h1, h2⟩ := hk
        have e1 : (pm_new M 1 n.toNatClampNeg).1 - M.1 = 1 := by show M.1 + 1 - M.1 = 1; omega
        have e2 : (pm_new M 1 n.toNatClampNeg).2.1 - M.2.1 = n.toNatClampNeg := by show M.2.1 + _ - M.2.1 = _; omega
        rw [e1] at hcell kk
        rw [e2] at hslot kk
        exact pm_newaW hx hb hok hts hK hbb hR h1 h2 hcell hslot hd fun H1 h1 => kk H1 locs la h1 hl hlen
      · cases hn
    · cases hn
  | anewarray x =>
    obtain rfl : len = 3 := by simpa [pm_ln] using hln
    simp only [pm_nx, Option.bind_eq_some_iff] at hn
    obtain ⟨c, hc, hn⟩ := hn
    split at hn
    · split at hn
      · rename_i n rest hk
        simp only [Option.some.injEq, Prod.mk.injEq] at hn
        obtain ⟨rfl, rfl, rfl, rfl⟩ := hn
        obtain ⟨h1, h2⟩ := hk
        have e1 : (pm_new M (2 * c + 3) n.toNatClampNeg).1 - M.1 = 1 := by show M.1 + 1 - M.1 = 1; omega
        have e2 : (pm_new M (2 * c + 3) n.toNatClampNeg).2.1 - M.2.1 = n.toNatClampNeg := by show M.2.1 + _ - M.2.1 = _; omega
        rw [e1] at hcell kk
        rw [e2] at hslot kk
        exact pm_anewW hx hb hok hts hown hK hbb hR hc h1 h2 hcell hslot hd fun H1 h1 => kk H1 locs la h1 hl hlen
      · cases hn
    · cases hn
  | invokespecial x =>
    obtain rfl : len = 3 := by simpa [pm_ln] using hln
    simp only [pm_nx, Option.bind_eq_some_iff] at hn
    obtain ⟨q, hq, hn⟩ := hn
    split at hn
    · split at hn
      · rename_i o rest hk
        simp only [Option.some.injEq, Prod.mk.injEq] at hn
        obtain ⟨rfl, rfl, rfl, rfl⟩ := hn
        obtain ⟨h1, h2, h3⟩ := (hok.2.2.2.2.2.2.2.2 _ _ _ hq).1 hk.1
        refine W.objInit hx hb hown (hts _ h1) (hts _ h2) (hts _ h3) rfl (hl.1.trans hml.symm) rfl hd (by rw [hRf]; exact hk.2.1) ?_ (kk0 rfl la hl hlen)
        rw [pm_cats, hRo]
        show 2 * 0 + _ + 12 ≤ _
        omega
      · cases hn
    · cases hn
  | invokestatic x =>
    obtain rfl : len = 3 := by simpa [pm_ln] using hln
    simp only [pm_nx, Option.bind_eq_some_iff] at hn
    obtain ⟨q, hq, hn⟩ := hn
    have hC := hok.2.2.2.2.2.2.2.2 _ _ _ hq
    split at hn
    · split at hn
      · rename_i b0 a0 rest hk
        simp only [Option.some.injEq, Prod.mk.injEq] at hn
        obtain ⟨rfl, rfl, rfl, rfl⟩ := hn
        obtain ⟨h1, h2, h3, h4⟩ := hC.2.2.2.2.2.1 hk.1
        exact va_mmax hx hb (hml.trans hl.1.symm) hown (hts _ h1) (hts _ h2) (hts _ h3) (hts _ h4) (by rw [hRf]; exact hk.2.1) (by rw [pm_cats, hRo]; exact hk.2.2) (by omega) (by omega) hd (kk0 rfl la hl hlen)
      · split at hn
        · rename_i b0 a0 rest _ hk
          simp only [Option.some.injEq, Prod.mk.injEq] at hn
          obtain ⟨rfl, rfl, rfl, rfl⟩ := hn
          obtain ⟨h1, h2, h3, h4⟩ := hC.2.2.2.2.2.2 hk.1
          exact va_mmin hx hb (hml.trans hl.1.symm) hown (hts _ h1) (hts _ h2) (hts _ h3) (hts _ h4) (by rw [hRf]; exact hk.2.1) (by rw [pm_cats, hRo]; exact hk.2.2) (by omega) (by omega) hd (kk0 rfl la hl hlen)
        · cases hn
    · cases hn
  | _ => simp [pm_nx] at hn
end PMN
end
section
/-! calls: a contract out of a run of the pure machine; the whole run -/
theorem pm_nx_mono {τ : pm_T} {m : pm_M} {xl : Nat} {xs : Nat → Int32} {pc pc' : Nat} {ls ls' : pm_L} {st st' : List Value} {M M' : pm_H} {i : Instr} (h : pm_nx τ m xl xs pc ls st M i = some (pc', ls', st', M')) : M.1 ≤ M'.1 ∧ M.2.1 ≤ M'.2.1 := by
  have key : (M = M' ∨ (∃ k j v, pm_setI M k j v = M') ∨ (∃ k j v, pm_setR M k j v = M') ∨ ∃ k n, pm_new M k n = M') → M.1 ≤ M'.1 ∧ M.2.1 ≤ M'.2.1 := by
    rintro (rfl | ⟨k, j, v, rfl⟩ | ⟨k, j, v, rfl⟩ | ⟨k, n, rfl⟩)
    · exact ⟨Nat.le_refl _, Nat.le_refl _⟩
    · exact ⟨Nat.le_refl _, Nat.le_refl _⟩
    · exact ⟨Nat.le_refl _, Nat.le_refl _⟩
    · exact ⟨Nat.le_succ _, Nat.le_add_right _ _⟩
  apply key
  clear key
  unfold pm_nx at h
  split at h <;> (try simp only [Option.bind_eq_some_iff, Option.some.injEq, Prod.mk.injEq] at h) <;> first
    | (cases h; done)
    | exact Or.inl h.2.2.2
    | (obtain ⟨_, _, h⟩ := h; first
        | exact Or.inl h.2.2.2
        | exact Or.inr (Or.inr (Or.inr ⟨_, _, h.2.2.2⟩))
        | (repeat' split at h) <;> first
            | (cases h; done)
            | (simp only [Option.some.injEq, Prod.mk.injEq] at h; first
                | exact Or.inl h.2.2.2
                | exact Or.inr (Or.inl ⟨_, _, _, h.2.2.2⟩)
                | exact Or.inr (Or.inr (Or.inl ⟨_, _, _, h.2.2.2⟩))
                | exact Or.inr (Or.inr (Or.inr ⟨_, _, h.2.2.2⟩))))
    | ((repeat' split at h) <;> (try simp only [Option.bind_eq_some_iff, Option.some.injEq, Prod.mk.injEq] at h) <;> first
        | (cases h; done)
        | exact Or.inl h.2.2.2
        | exact Or.inr (Or.inl ⟨_, _, _, h.2.2.2⟩)
        | exact Or.inr (Or.inr (Or.inl ⟨_, _, _, h.2.2.2⟩))
        | exact Or.inr (Or.inr (Or.inr ⟨_, _, h.2.2.2⟩))
        | (obtain ⟨_, _, h⟩ := h; exact Or.inl h.2.2.2)
        | (obtain ⟨_, _, _, _, h⟩ := h; exact Or.inl h.2.2.2))
theorem pm_run_mono {τ : pm_T} {xl : Nat} {xs : Nat → Int32} (n : Nat) : ∀ {m : pm_M} {pc : Nat} {ls : pm_L} {st : List Value} {M : pm_H} {r : Option Value × pm_H}, pm_run τ xl xs n m pc ls st M = some r → M.1 ≤ r.2.1 ∧ M.2.1 ≤ r.2.2.1 := by
  induction n with
  | zero => intro m pc ls st M r h; simp [pm_run] at h
  | succ n ih =>
    intro m pc ls st M r h
    rw [pm_run] at h
    split at h
    · cases h
    · split at h
      · cases h
      · split at h
        · split at h
          · cases h
          · rename_i hr
            have h1 := ih hr
            have h2 := ih h
            exact ⟨Nat.le_trans h1.1 h2.1, Nat.le_trans h1.2 h2.2⟩
        · split at h
          · cases h; exact ⟨Nat.le_refl _, Nat.le_refl _⟩
          · split at h
            · cases h
            · rename_i hx
              have h1 := pm_nx_mono hx
              have h2 := ih h
              exact ⟨Nat.le_trans h1.1 h2.1, Nat.le_trans h1.2 h2.2⟩
section PMC
variable {τ : pm_T} {cl : List vw_C} {acs : List Nat} {Rn : Nat → String} {Ts : List Jvm.Cond} {xl : Nat} {xs : Nat → Int32} {l : Launch}
/-- runs of n steps are the real machine's -/
def pm_S (τ : pm_T) (cl : List vw_C) (acs : List Nat) (Rn : Nat → String) (Ts : List Jvm.Cond) (xl : Nat) (xs : Nat → Int32) (l : Launch) (n : Nat) : Prop :=
  ∀ {p : Program} {e : Env} {R : Room} {s : State} {mi : MethodId} {args : Array Value} {below : List Frame} {meth : Method} {c0 : Code} {H : Heap} {locs : List Loc} {cells slots : Nat} {Q : State → Prop} {la : Array Slot} {D : va_G} {cA : Nat → ClassId} {base b : Nat} {m : pm_M} {pc : Nat} {ls : pm_L} {st : List Value} {M Mf : pm_H} {r : Option Value},
    p.tables.exec = Jvm.exec → c0.code = pm_b m → (∀ w ∈ Ts, w.before args s = true) → s.vm.findClass (Rn (pm_n m)) = some mi.cls → meth.name = (pm_y m).name → c0.maxLocals = pm_l m → R.frames = pm_f m → R.locals = pm_o m → pm_K cl acs D cA s → b < base →
    pm_run τ xl xs n m pc ls st M = some (r, Mf) → pm_Rl τ cl acs D cA base b xl xs s M H locs → lv_has la (pm_l m) (pm_as base b ls) → ls.length = pm_l m → cells + (Mf.1 - M.1) ≤ R.cells → slots + (Mf.2.1 - M.2.1) ≤ R.slots →
    (∀ (H1 : Heap) (locs1 : List Loc) (la1 : Array Slot) (pc1 : Nat) (i : Instr) (st1 : List Value), pm_Rl τ cl acs D cA base b xl xs s Mf H1 locs1 → decode (pm_b m) pc1 = .ok (i, 1) → pm_rt m st1 i = some r → W p l e R s mi args below meth c0 H1 locs1 (cells + (Mf.1 - M.1)) (slots + (Mf.2.1 - M.2.1)) Q (F0 mi pc1 la1 (st1.map (pm_sh base b)))) →
    W p l e R s mi args below meth c0 H locs cells slots Q (F0 mi pc la (st.map (pm_sh base b)))
def pm_P (τ : pm_T) (cl : List vw_C) (acs : List Nat) (D : va_G) (cA : Nat → ClassId) (base b xl : Nat) (xs : Nat → Int32) (vs : List Value) (M : pm_H) : Array Value → State → Prop :=
  fun v U => v = (vs.map (pm_sh base b)).toArray ∧ pm_Pic τ cl acs D cA base M U.heap ∧ va_X b xl xs U U.heap ∧ pm_K cl acs D cA U
def pm_Q (τ : pm_T) (cl : List vw_C) (acs : List Nat) (D : va_G) (cA : Nat → ClassId) (base b : Nat) (r : Option Value) (Mf : pm_H) : Array Value → State → Outcome → State → Prop :=
  fun _ st oc t => oc = .returned (r.map (pm_sh base b)) ∧ pm_Pic τ cl acs D cA base Mf t.heap ∧ va_F (fun q => base ≤ q) st t
theorem pm_blind {D : va_G} {cA : Nat → ClassId} {base b : Nat} {vs : List Value} {M : pm_H} : FrameBlind (pm_P τ cl acs D cA base b xl xs vs M) :=
  fun _ U g mk h => ⟨h.1, h.2.1, va_X.moved (u := U) (U := U.calling g mk _) (Vm.Alike.refl U.vm) h.2.2.1, pm_K.moved (u := U) (U := U.calling g mk _) (Vm.Alike.refl U.vm) h.2.2.2⟩
theorem pm_goodIn (hok : pm_ok τ cl acs Rn Ts) {ws : List Jvm.Cond} (h : ∀ w ∈ ws, w ∈ Ts) : GoodIn Ts ws := fun w hw => ⟨h w hw, good_of_word (hok.1 w (h w hw))⟩
theorem pm_met {n : Nat} (hS : pm_S τ cl acs Rn Ts xl xs l n) (hok : pm_ok τ cl acs Rn Ts) {m : pm_M} (hm : pm_okM Rn Ts m) {vs : List Value} {M Mf : pm_H} {r : Option Value} (hvs : vs.length ≤ pm_l m) (hrun : pm_run τ xl xs n m 0 (pm_en m vs) [] M = some (r, Mf)) {base b : Nat} (hbb : b < base) (D : va_G) (cA : Nat → ClassId) :
    Met l (pm_y m) (Jvm.Cond.code (pm_y m) (pm_b m) (pm_l m) (pm_r m) :: Ts) ({ frames := pm_f m, cells := Mf.1 - M.1, slots := Mf.2.1 - M.2.1, locals := pm_o m }) (pm_P τ cl acs D cA base b xl xs vs M) (pm_Q τ cl acs D cA base b r Mf) (Mf.1 - M.1) (Mf.2.1 - M.2.1) (fun q => base ≤ q) := by
  refine Met.ofW (cc := pm_b m) (maxL := pm_l m) (ret := pm_r m) hm.2.1 rfl ?_
  intro p e s mi args below meth c s₁ B hml hv
  obtain ⟨rfl, hP, hX, hK⟩ := hv
  have hts := atoms_spec (ws := Jvm.Cond.code (pm_y m) (pm_b m) (pm_l m) (pm_r m) :: Ts) B.pre
  have hown : s.vm.findClass (Rn (pm_n m)) = some mi.cls := by rw [hm.2.2]; exact findClass_of_methodNamed B.named
  have hl0 := lv_entry (vs.map (pm_sh base b)) (n := pm_l m) (by rw [pm_lg]; exact hvs)
  rw [lg_entry_eq]
  generalize (lg_sl (vs.map (pm_sh base b)) ++ List.replicate (pm_l m - (lg_sl (vs.map (pm_sh base b))).length) Slot.unset).toArray = la at hl0 ⊢
  have hl : lv_has la (pm_l m) (pm_as base b (pm_en m vs)) := ⟨hl0.1, hl0.2.1, fun q hq => hl0.2.2 q (pm_as_entry base b m vs q hq)⟩
  refine hS (st := []) (M := M) (Mf := Mf) (r := r) (cells := 0) (slots := 0) B.exec B.bytes (fun w hw => hts w (List.mem_cons_of_mem _ hw)) hown (name_of_methodNamed B.named B.method).1 hml rfl rfl hK hbb hrun ⟨hP, hX, va_S.rf⟩ hl (pm_en_len hvs) (by show 0 + _ ≤ _; rw [Nat.zero_add]; exact Nat.le_refl _) (by show 0 + _ ≤ _; rw [Nat.zero_add]; exact Nat.le_refl _) ?_
  intro H1 locs1 la1 pc1 i st1 hR1 hd1 hrt
  rw [Nat.zero_add, Nat.zero_add]
  have hlocks := B.notSynchronized
  have hr := B.returns
  unfold pm_rt at hrt
  split at hrt
  · split at hrt
    · split at hrt
      · rename_i v hret
        cases hrt
        rcases hret with h | ⟨h, h2⟩
        · exact W.iret (v := v) B.exec B.bytes (by rw [hr, h]) (fun t ht _ => ⟨rfl, by rw [ht]; exact hR1.1, hR1.2.2.F ht⟩) hR1.2.2.2.2 hd1 hlocks
        · exact W.zret (v := v) B.exec B.bytes (by rw [hr, h]) (by rcases h2 with rfl | rfl <;> decide) (fun t ht _ => ⟨rfl, by rw [ht]; exact hR1.1, hR1.2.2.F ht⟩) hR1.2.2.2.2 hd1 hlocks
      · cases hrt
    · cases hrt
  · split at hrt
    · split at hrt
      · rename_i h
        cases hrt
        exact W.vret B.exec B.bytes (by rw [hr, h]) (fun t ht _ => ⟨rfl, by rw [ht]; exact hR1.1, hR1.2.2.F ht⟩) hR1.2.2.2.2 hd1 hlocks
      · cases hrt
    · cases hrt
  · cases hrt
/-- behind a call -/
theorem pm_behind {p : Program} {e : Env} {R : Room} {s : State} {mi : MethodId} {args : Array Value} {below : List Frame} {meth : Method} {c0 : Code} {H : Heap} {locs : List Loc} {cells slots mc ms : Nat} {Q : State → Prop} {la : Array Slot} {D : va_G} {cA : Nat → ClassId} {base b : Nat} {pc : Nat} {st0 rest : List Value} {M M1 : pm_H} {r : Option Value} {a : Array Value} (hbb : b < base) (hR : pm_Rl τ cl acs D cA base b xl xs s M H locs)
    (hr : va_Run p l e R s mi args below meth c0 H locs cells slots mc ms (F0 mi pc la st0) (rest.map (pm_sh base b)) (pm_Q τ cl acs D cA base b r M1 a) (fun q => base ≤ q))
    (kk : ∀ (H1 : Heap) (locs1 : List Loc), pm_Rl τ cl acs D cA base b xl xs s M1 H1 locs1 → W p l e R s mi args below meth c0 H1 locs1 (cells + mc) (slots + ms) Q (F0 mi (pc + 3) la ((r.toList ++ rest).map (pm_sh base b)))) : W p l e R s mi args below meth c0 H locs cells slots Q (F0 mi pc la st0) := by
  intro T hT X
  obtain ⟨v, st₀, t, T', L, h0, X', hL, e1, e2, ⟨hv, hP, hz, hk⟩, st⟩ := hr T hT X
  cases hv
  rw [h0] at hz hk
  have hsz : s.heap.size ≤ H.size := hR.2.2.1
  have hR1 : pm_Rl τ cl acs D cA base b xl xs s M1 T'.heap (locs ++ L) := by
    rw [e1]
    refine ⟨hP, pm_X_keep hR.2.1 (hk b (by rw [hR.1.1]; omega) (by omega)), Nat.le_trans hsz hz, fun q h1 h2 => (hk q (by omega) h2).trans (hR.2.2.2.1 q h1 h2), fun q hq => ?_⟩
    rcases List.mem_append.mp hq with h | h
    · exact hR.2.2.2.2 q h
    · exact hL q h
  obtain ⟨t2, a1, b1⟩ := kk T'.heap _ hR1 T' rfl X'
  refine ⟨t2, st t2 ?_, b1⟩
  have he : (r.toList ++ rest).map (pm_sh base b) = (r.map (pm_sh base b)).toList ++ rest.map (pm_sh base b) := by cases r <;> rfl
  rw [he] at a1
  exact a1
theorem pm_cut {na : Nat} {st rest : List Value} {v : Value} (h : st.drop na = v :: rest) : st = st.take na ++ v :: rest := by
  rw [← h, List.take_append_drop]
set_option maxHeartbeats 4000000 in
theorem pm_all (hok : pm_ok τ cl acs Rn Ts) (n : Nat) : pm_S τ cl acs Rn Ts xl xs l n := by
  induction n with
  | zero =>
    intro p e R s mi args below meth c0 H locs cells slots Q la D cA base b m pc ls st M Mf r hx hb hts hown hname hml hRf hRo hK hbb hrun
    simp [pm_run] at hrun
  | succ n ih =>
    intro p e R s mi args below meth c0 H locs cells slots Q la D cA base b m pc ls st M Mf r hx hb hts hown hname hml hRf hRo hK hbb hrun hR hl hlen hcell hslot hret
    rw [pm_run] at hrun
    cases hd : decode (pm_b m) pc with
    | error er => rw [hd] at hrun; cases hrun
    | ok q =>
      obtain ⟨i, len⟩ := q
      rw [hd] at hrun
      dsimp only at hrun
      split at hrun
      · cases hrun
      · rename_i hln0
        have hln : pm_ln i len = true := by
          cases h : pm_ln i len with
          | true => rfl
          | false => exact absurd h hln0
        cases hc : pm_cl τ m st M i with
        | some w =>
          obtain ⟨m', vs, rest⟩ := w
          rw [hc] at hrun
          dsimp only at hrun
          cases hr : pm_run τ xl xs n m' 0 (pm_en m' vs) [] M with
          | none => rw [hr] at hrun; cases hrun
          | some w =>
            obtain ⟨r', M1⟩ := w
            rw [hr] at hrun
            dsimp only at hrun
            have m1 := pm_run_mono n hr
            have m2 := pm_run_mono n hrun
            dsimp only at m1 m2
            have hgo : ∀ (H1 : Heap) (locs1 : List Loc), pm_Rl τ cl acs D cA base b xl xs s M1 H1 locs1 → W p l e R s mi args below meth c0 H1 locs1 (cells + (M1.1 - M.1)) (slots + (M1.2.1 - M.2.1)) Q (F0 mi (pc + 3) la ((r'.toList ++ rest).map (pm_sh base b))) := by
              intro H1 locs1 hR1
              refine ih hx hb hts hown hname hml hRf hRo hK hbb hrun hR1 hl hlen (by omega) (by omega) ?_
              intro H2 locs2 la2 pc2 i2 st2 h2 h3 h4
              have := hret H2 locs2 la2 pc2 i2 st2 h2 h3 h4
              rw [show cells + (M1.1 - M.1) + (Mf.1 - M1.1) = cells + (Mf.1 - M.1) by omega, show slots + (M1.2.1 - M.2.1) + (Mf.2.1 - M1.2.1) = slots + (Mf.2.1 - M.2.1) by omega]
              exact this
            have hcs : cells + (M1.1 - M.1) ≤ R.cells ∧ slots + (M1.2.1 - M.2.1) ≤ R.slots := ⟨by omega, by omega⟩
            unfold pm_cl at hc
            split at hc
            · rename_i x
              obtain rfl : len = 3 := by simpa [pm_ln] using hln
              simp only [Option.bind_eq_some_iff] at hc
              obtain ⟨⟨kd, m0, na⟩, hq, hc⟩ := hc
              dsimp only at hc
              split at hc
              · rename_i o rest0 hdrop
                split at hc
                · rename_i hcond
                  obtain ⟨rfl, hko, h1, h2, h3, h4, h5⟩ := hcond
                  simp only [Option.some.injEq, Prod.mk.injEq] at hc
                  obtain ⟨rfl, rfl, rfl⟩ := hc
                  obtain ⟨-, hc1, hc2, -, -, -, -⟩ := hok.2.2.2.2.2.2.2.2 _ _ _ hq
                  obtain ⟨hm, hlk, hini, hdes⟩ := hc1 (by show 0 < 3; decide)
                  obtain ⟨hins, hsel⟩ := hc2 rfl
                  dsimp only at hm hlk hini hdes hins hsel
                  have hlt : (st.take na).length = na := by rw [List.length_take]; omega
                  have hM := pm_met ih hok hm (vs := .ref o :: (st.take na).reverse) (by rw [List.length_cons, List.length_reverse, hlt]; exact h2) hr hbb D cA
                  have hat := (hR.1.2.2 o).1 (pm_n m0) (pm_k M o).2 (by rw [← hko])
                  obtain ⟨⟨q, hqc, hql⟩, cell, q1, q2, q3, -⟩ := hat
                  have hRn := (hok.2.1 _ _ hqc).1
                  have hcls := (hK.1.1 _ _ hqc).2
                  have hcall := va_runV (As := ((st.take na).reverse).map (pm_sh base b)) (rest := rest0.map (pm_sh base b)) (b := base + o) (C := (pm_y m0).cls) (index := x) (g := F0 mi pc la (st.map (pm_sh base b))) (cells := cells) (slots := slots) (locs := locs) (H := H) (below := below) (meth := meth) (e := e) (R := R) ⟨hx, hb, hml, hown, hts⟩ hM
                    (cwV na hts (pm_goodIn hok (fun w hw => by
                      simp only [wsV, List.mem_append, List.mem_cons, List.not_mem_nil, or_false] at hw
                      rcases hw with (rfl | rfl | rfl | rfl) | rfl | hw
                      · exact hlk
                      · exact hins
                      · exact hsel
                      · exact hini
                      · exact hm.1
                      · exact hw)) rfl rfl rfl ⟨rfl, hdes.1, hdes.2.1, hdes.2.2⟩ ⟨by rw [hRf]; exact h4, by rw [hRo]; exact h5⟩)
                    ⟨pm_blind, ⟨cell, q1, by rw [q3]; rfl, by rw [q2, ← hm.2.2, hRn]; exact hcls.1⟩, fun U hU hW => ⟨by rw [List.map_cons]; rfl, by rw [hU]; exact hR.1, va_X.moved hW.alike (by rw [hU]; exact hR.2.1), pm_K.moved hW.alike hK⟩⟩
                    rfl (by rw [List.length_map, List.length_reverse, hlt]) hl.1 (by
                      show st.map (pm_sh base b) = _
                      rw [List.map_reverse, List.reverse_reverse]
                      conv => lhs; rw [pm_cut hdrop]
                      rw [List.map_append, List.map_cons]
                      rfl) (lv_room (by rw [pm_cats]; exact h3)) hd hcs
                  exact pm_behind hbb hR hcall hgo
                · cases hc
              · cases hc
            · rename_i x
              obtain rfl : len = 3 := by simpa [pm_ln] using hln
              simp only [Option.bind_eq_some_iff] at hc
              obtain ⟨⟨kd, m0, na⟩, hq, hc⟩ := hc
              dsimp only at hc
              split at hc
              · rename_i hcond
                obtain ⟨rfl, h1, h2, h3, h4, h5⟩ := hcond
                simp only [Option.some.injEq, Prod.mk.injEq] at hc
                obtain ⟨rfl, rfl, rfl⟩ := hc
                obtain ⟨-, hc1, -, hc2, -, -, -⟩ := hok.2.2.2.2.2.2.2.2 _ _ _ hq
                obtain ⟨hm, hlk, hini, hdes⟩ := hc1 (by show 1 < 3; decide)
                have hstt := hc2 rfl
                dsimp only at hm hlk hini hdes hstt
                have hlt : (st.take na).length = na := by rw [List.length_take]; omega
                have hM := pm_met ih hok hm (vs := (st.take na).reverse) (by rw [List.length_reverse, hlt]; exact h2) hr hbb D cA
                have hcall := va_runS (As := ((st.take na).reverse).map (pm_sh base b)) (rest := (st.drop na).map (pm_sh base b)) (index := x) (g := F0 mi pc la (st.map (pm_sh base b))) (cells := cells) (slots := slots) (locs := locs) (H := H) (below := below) (meth := meth) (e := e) (R := R) ⟨hx, hb, hml, hown, hts⟩ hM
                  ⟨callB_of na hts (pm_goodIn hok (fun w hw => by
                    rcases List.mem_cons.mp hw with rfl | hw
                    · exact hm.1
                    · exact hw)) rfl rfl rfl (hts _ hini) (hts _ hlk) ⟨hdes.1, hdes.2.1, hdes.2.2⟩ ⟨by rw [hRf]; exact h4, by rw [hRo]; exact h5⟩, hts _ hstt⟩
                  ⟨pm_blind, fun U hU hW => ⟨rfl, by rw [hU]; exact hR.1, va_X.moved hW.alike (by rw [hU]; exact hR.2.1), pm_K.moved hW.alike hK⟩⟩
                  rfl (by rw [List.length_map, List.length_reverse, hlt]) hl.1 (by
                    show st.map (pm_sh base b) = _
                    rw [List.map_reverse, List.reverse_reverse, ← List.map_append, List.take_append_drop]) (lv_room (by rw [pm_cats]; exact h3)) hd hcs
                exact pm_behind hbb hR hcall hgo
              · cases hc
            · rename_i x
              obtain rfl : len = 3 := by simpa [pm_ln] using hln
              simp only [Option.bind_eq_some_iff] at hc
              obtain ⟨⟨kd, m0, na⟩, hq, hc⟩ := hc
              dsimp only at hc
              split at hc
              · rename_i o rest0 hdrop
                split at hc
                · rename_i hcond
                  obtain ⟨rfl, h1, h2, h3, h4, h5⟩ := hcond
                  simp only [Option.some.injEq, Prod.mk.injEq] at hc
                  obtain ⟨rfl, rfl, rfl⟩ := hc
                  obtain ⟨-, hc1, -, -, hc2, -, -⟩ := hok.2.2.2.2.2.2.2.2 _ _ _ hq
                  obtain ⟨hm, hlk, hini, hdes⟩ := hc1 (by show 2 < 3; decide)
                  obtain ⟨hnm, hins, hrn⟩ := hc2 rfl
                  dsimp only at hm hlk hini hdes hnm hins hrn
                  have hlt : (st.take na).length = na := by rw [List.length_take]; omega
                  have hM := pm_met ih hok hm (vs := .ref o :: (st.take na).reverse) (by rw [List.length_cons, List.length_reverse, hlt]; exact h2) hr hbb D cA
                  have hcall := va_runI (As := ((st.take na).reverse).map (pm_sh base b)) (rest := rest0.map (pm_sh base b)) (b := base + o) (index := x) (g := F0 mi pc la (st.map (pm_sh base b))) (cells := cells) (slots := slots) (locs := locs) (H := H) (below := below) (meth := meth) (e := e) (R := R) ⟨hx, hb, hml, hown, hts⟩ hM
                    ⟨callB_of na hts (pm_goodIn hok (fun w hw => by
                      rcases List.mem_cons.mp hw with rfl | hw
                      · exact hm.1
                      · exact hw)) (by rw [hrn]) rfl rfl (hts _ hini) (hts _ hlk) ⟨hdes.1, hdes.2.1, hdes.2.2⟩ ⟨by rw [hRf]; exact h4, by rw [hRo]; exact h5⟩, hnm, hts _ hins⟩
                    ⟨pm_blind, fun U hU hW => ⟨by rw [List.map_cons]; rfl, by rw [hU]; exact hR.1, va_X.moved hW.alike (by rw [hU]; exact hR.2.1), pm_K.moved hW.alike hK⟩⟩
                    rfl (by rw [List.length_map, List.length_reverse, hlt]) hl.1 (by
                      show st.map (pm_sh base b) = _
                      rw [List.map_reverse, List.reverse_reverse]
                      conv => lhs; rw [pm_cut hdrop]
                      rw [List.map_append, List.map_cons]
                      rfl) (lv_room (by rw [pm_cats]; exact h3)) hd hcs
                  exact pm_behind hbb hR hcall hgo
                · cases hc
              · cases hc
            · cases hc
        | none =>
          rw [hc] at hrun
          dsimp only at hrun
          cases ht : pm_rt m st i with
          | some r' =>
            rw [ht] at hrun
            cases hrun
            have hl1 : len = 1 := by
              unfold pm_rt at ht
              split at ht
              · simpa [pm_ln] using hln
              · simpa [pm_ln] using hln
              · cases ht
            subst hl1
            have := hret H locs la pc i st hR hd ht
            rwa [Nat.sub_self, Nat.sub_self, Nat.add_zero, Nat.add_zero] at this
          | none =>
            rw [ht] at hrun
            dsimp only at hrun
            cases hn : pm_nx τ m xl xs pc ls st M i with
            | none => rw [hn] at hrun; cases hrun
            | some w =>
              obtain ⟨pc', ls', st', M1⟩ := w
              rw [hn] at hrun
              dsimp only at hrun
              have m1 := pm_nx_mono hn
              have m2 := pm_run_mono n hrun
              dsimp only at m1 m2
              refine pm_nxW hx hb hok hts hown hname hml hRf hRo hK hbb hd hln hn hR hl hlen (by omega) (by omega) fun H1 locs1 la1 hR1 hl1 hlen1 => ?_
              refine ih hx hb hts hown hname hml hRf hRo hK hbb hrun hR1 hl1 hlen1 (by omega) (by omega) ?_
              intro H2 locs2 la2 pc2 i2 st2 h2 h3 h4
              have := hret H2 locs2 la2 pc2 i2 st2 h2 h3 h4
              rw [show cells + (M1.1 - M.1) + (Mf.1 - M1.1) = cells + (Mf.1 - M.1) by omega, show slots + (M1.2.1 - M.2.1) + (Mf.2.1 - M1.2.1) = slots + (Mf.2.1 - M.2.1) by omega]
              exact this
end PMC
end
section
/-! names of the claim's bytecode, by program -/
def RX0 : String := "BountyDesk$Asset"
def TX0 : u_T := fun k => match k with
  | 0 => ("BountyDesk$Asset", "weight", "I", false)
  | 1 => ("BountyDesk$Asset", "allowance", "I", false)
  | _ => ("BountyDesk$Asset", "pool", "I", false)
def tyX0 : Nat → FieldType := fun k => match k with
  | 0 => .int
  | 1 => .int
  | _ => .int
theorem nmX0 : ∀ a, a < 3 → ∀ b, b < 3 → a ≠ b → (TX0 a).2.1 ≠ (TX0 b).2.1 := by decide +kernel
theorem tyX0_ok : ∀ k, k < 3 → parseFieldDescriptor (TX0 k).2.2.1 = some (tyX0 k) := by decide +kernel
abbrev cX0_init : ByteArray := prog_2_method_1_code
def yX0_init : MethodName := ⟨RX0, "<init>", "()V"⟩
abbrev cX0_copyFrom : ByteArray := prog_2_method_2_code
def yX0_copyFrom : MethodName := ⟨RX0, "copyFrom", "(LBountyDesk$Asset;)V"⟩
def RX1 : String := "BountyDesk$Books"
def TX1 : u_T := fun k => match k with
  | 0 => ("BountyDesk$Books", "assets", "[LBountyDesk$Asset;", true)
  | 1 => ("BountyDesk$Books", "hunters", "[LBountyDesk$Hunter;", true)
  | 2 => ("BountyDesk$Books", "reports", "[LBountyDesk$Report;", true)
  | 3 => ("BountyDesk$Books", "assetCount", "I", false)
  | 4 => ("BountyDesk$Books", "hunterCount", "I", false)
  | 5 => ("BountyDesk$Books", "reportCount", "I", false)
  | 6 => ("BountyDesk$Books", "day", "I", false)
  | 7 => ("BountyDesk$Books", "reserve", "I", false)
  | 8 => ("BountyDesk$Books", "rate", "I", false)
  | 9 => ("BountyDesk$Books", "bonus", "I", false)
  | 10 => ("BountyDesk$Books", "paidSoFar", "I", false)
  | _ => ("BountyDesk$Books", "bonusesSoFar", "I", false)
def tyX1 : Nat → FieldType := fun k => match k with
  | 0 => .array (.object "BountyDesk$Asset")
  | 1 => .array (.object "BountyDesk$Hunter")
  | 2 => .array (.object "BountyDesk$Report")
  | 3 => .int
  | 4 => .int
  | 5 => .int
  | 6 => .int
  | 7 => .int
  | 8 => .int
  | 9 => .int
  | 10 => .int
  | _ => .int
theorem nmX1 : ∀ a, a < 12 → ∀ b, b < 12 → a ≠ b → (TX1 a).2.1 ≠ (TX1 b).2.1 := by decide +kernel
theorem tyX1_ok : ∀ k, k < 12 → parseFieldDescriptor (TX1 k).2.2.1 = some (tyX1 k) := by decide +kernel
abbrev cX1_init : ByteArray := prog_3_method_1_code
def yX1_init : MethodName := ⟨RX1, "<init>", "()V"⟩
abbrev cX1_copyFrom : ByteArray := prog_3_method_2_code
def yX1_copyFrom : MethodName := ⟨RX1, "copyFrom", "(LBountyDesk$Books;)V"⟩
abbrev cX1_hasAsset : ByteArray := prog_3_method_3_code
def yX1_hasAsset : MethodName := ⟨RX1, "hasAsset", "(I)Z"⟩
abbrev cX1_hasHunter : ByteArray := prog_3_method_4_code
def yX1_hasHunter : MethodName := ⟨RX1, "hasHunter", "(I)Z"⟩
abbrev cX1_hasReport : ByteArray := prog_3_method_5_code
def yX1_hasReport : MethodName := ⟨RX1, "hasReport", "(I)Z"⟩
abbrev cX1_openAsset : ByteArray := prog_3_method_6_code
def yX1_openAsset : MethodName := ⟨RX1, "openAsset", "(II)I"⟩
abbrev cX1_openHunter : ByteArray := prog_3_method_7_code
def yX1_openHunter : MethodName := ⟨RX1, "openHunter", "()I"⟩
abbrev cX1_openReport : ByteArray := prog_3_method_8_code
def yX1_openReport : MethodName := ⟨RX1, "openReport", "(III)I"⟩
abbrev cX1_foldTarget : ByteArray := prog_3_method_9_code
def yX1_foldTarget : MethodName := ⟨RX1, "foldTarget", "(I)I"⟩
abbrev cX1_releaseFolded : ByteArray := prog_3_method_10_code
def yX1_releaseFolded : MethodName := ⟨RX1, "releaseFolded", "(I)I"⟩
abbrev cX1_priceWith : ByteArray := prog_3_method_11_code
def yX1_priceWith : MethodName := ⟨RX1, "priceWith", "(LBountyDesk$Report;I)I"⟩
abbrev cX1_priceOf : ByteArray := prog_3_method_12_code
def yX1_priceOf : MethodName := ⟨RX1, "priceOf", "(LBountyDesk$Report;)I"⟩
abbrev cX1_closeAppeal : ByteArray := prog_3_method_13_code
def yX1_closeAppeal : MethodName := ⟨RX1, "closeAppeal", "(LBountyDesk$Report;I)I"⟩
abbrev cX1_payOrWait : ByteArray := prog_3_method_14_code
def yX1_payOrWait : MethodName := ⟨RX1, "payOrWait", "(I)I"⟩
abbrev cX1_shareOut : ByteArray := prog_3_method_15_code
def yX1_shareOut : MethodName := ⟨RX1, "shareOut", "(II)V"⟩
abbrev cX1_beginQuarter : ByteArray := prog_3_method_16_code
def yX1_beginQuarter : MethodName := ⟨RX1, "beginQuarter", "()I"⟩
abbrev cX1_isReportedBy : ByteArray := prog_3_method_17_code
def yX1_isReportedBy : MethodName := ⟨RX1, "isReportedBy", "(II)Z"⟩
abbrev cX1_takeRetest : ByteArray := prog_3_method_18_code
def yX1_takeRetest : MethodName := ⟨RX1, "takeRetest", "(IIZ)I"⟩
abbrev cX1_giveBonuses : ByteArray := prog_3_method_19_code
def yX1_giveBonuses : MethodName := ⟨RX1, "giveBonuses", "(I)V"⟩
abbrev cX1_standingOf : ByteArray := prog_3_method_20_code
def yX1_standingOf : MethodName := ⟨RX1, "standingOf", "(I)I"⟩
abbrev cX1_standingFor : ByteArray := prog_3_method_21_code
def yX1_standingFor : MethodName := ⟨RX1, "standingFor", "(I)I"⟩
abbrev cX1_reportsInState : ByteArray := prog_3_method_22_code
def yX1_reportsInState : MethodName := ⟨RX1, "reportsInState", "(I)I"⟩
abbrev cX1_reportsFor : ByteArray := prog_3_method_23_code
def yX1_reportsFor : MethodName := ⟨RX1, "reportsFor", "(I)I"⟩
abbrev cX1_reportsBy : ByteArray := prog_3_method_24_code
def yX1_reportsBy : MethodName := ⟨RX1, "reportsBy", "(I)I"⟩
abbrev cX1_foldedReports : ByteArray := prog_3_method_25_code
def yX1_foldedReports : MethodName := ⟨RX1, "foldedReports", "(I)I"⟩
abbrev cX1_openAppeals : ByteArray := prog_3_method_26_code
def yX1_openAppeals : MethodName := ⟨RX1, "openAppeals", "()I"⟩
abbrev cX1_moneyInPools : ByteArray := prog_3_method_27_code
def yX1_moneyInPools : MethodName := ⟨RX1, "moneyInPools", "()I"⟩
abbrev cX1_payablePrices : ByteArray := prog_3_method_28_code
def yX1_payablePrices : MethodName := ⟨RX1, "payablePrices", "(I)I"⟩
def RX2 : String := "BountyDesk$Hunter"
def TX2 : u_T := fun k => match k with
  | 0 => ("BountyDesk$Hunter", "money", "I", false)
  | 1 => ("BountyDesk$Hunter", "won", "I", false)
  | 2 => ("BountyDesk$Hunter", "lost", "I", false)
  | _ => ("BountyDesk$Hunter", "bonuses", "I", false)
def tyX2 : Nat → FieldType := fun k => match k with
  | 0 => .int
  | 1 => .int
  | 2 => .int
  | _ => .int
theorem nmX2 : ∀ a, a < 4 → ∀ b, b < 4 → a ≠ b → (TX2 a).2.1 ≠ (TX2 b).2.1 := by decide +kernel
theorem tyX2_ok : ∀ k, k < 4 → parseFieldDescriptor (TX2 k).2.2.1 = some (tyX2 k) := by decide +kernel
abbrev cX2_init : ByteArray := prog_4_method_1_code
def yX2_init : MethodName := ⟨RX2, "<init>", "()V"⟩
abbrev cX2_clear : ByteArray := prog_4_method_2_code
def yX2_clear : MethodName := ⟨RX2, "clear", "()V"⟩
abbrev cX2_copyFrom : ByteArray := prog_4_method_3_code
def yX2_copyFrom : MethodName := ⟨RX2, "copyFrom", "(LBountyDesk$Hunter;)V"⟩
def RX3 : String := "BountyDesk$Report"
def TX3 : u_T := fun k => match k with
  | 0 => ("BountyDesk$Report", "hunter", "I", false)
  | 1 => ("BountyDesk$Report", "asset", "I", false)
  | 2 => ("BountyDesk$Report", "flaw", "I", false)
  | 3 => ("BountyDesk$Report", "state", "I", false)
  | 4 => ("BountyDesk$Report", "severity", "I", false)
  | 5 => ("BountyDesk$Report", "foldedInto", "I", false)
  | 6 => ("BountyDesk$Report", "appeal", "I", false)
  | 7 => ("BountyDesk$Report", "claimed", "I", false)
  | 8 => ("BountyDesk$Report", "lastPaid", "I", false)
  | 9 => ("BountyDesk$Report", "toldGone", "I", false)
  | 10 => ("BountyDesk$Report", "toldThere", "I", false)
  | _ => ("BountyDesk$Report", "isClosed", "Z", false)
def tyX3 : Nat → FieldType := fun k => match k with
  | 0 => .int
  | 1 => .int
  | 2 => .int
  | 3 => .int
  | 4 => .int
  | 5 => .int
  | 6 => .int
  | 7 => .int
  | 8 => .int
  | 9 => .int
  | 10 => .int
  | _ => .boolean
theorem nmX3 : ∀ a, a < 12 → ∀ b, b < 12 → a ≠ b → (TX3 a).2.1 ≠ (TX3 b).2.1 := by decide +kernel
theorem tyX3_ok : ∀ k, k < 12 → parseFieldDescriptor (TX3 k).2.2.1 = some (tyX3 k) := by decide +kernel
abbrev cX3_init : ByteArray := prog_5_method_1_code
def yX3_init : MethodName := ⟨RX3, "<init>", "()V"⟩
abbrev cX3_open : ByteArray := prog_5_method_2_code
def yX3_open : MethodName := ⟨RX3, "open", "(III)V"⟩
abbrev cX3_makeNew : ByteArray := prog_5_method_3_code
def yX3_makeNew : MethodName := ⟨RX3, "makeNew", "()V"⟩
abbrev cX3_isPayable : ByteArray := prog_5_method_4_code
def yX3_isPayable : MethodName := ⟨RX3, "isPayable", "()Z"⟩
abbrev cX3_hasSeverity : ByteArray := prog_5_method_5_code
def yX3_hasSeverity : MethodName := ⟨RX3, "hasSeverity", "()Z"⟩
abbrev cX3_isRetestedBy : ByteArray := prog_5_method_6_code
def yX3_isRetestedBy : MethodName := ⟨RX3, "isRetestedBy", "(I)Z"⟩
abbrev cX3_tellsSameAs : ByteArray := prog_5_method_7_code
def yX3_tellsSameAs : MethodName := ⟨RX3, "tellsSameAs", "(LBountyDesk$Report;)Z"⟩
abbrev cX3_copyFrom : ByteArray := prog_5_method_8_code
def yX3_copyFrom : MethodName := ⟨RX3, "copyFrom", "(LBountyDesk$Report;)V"⟩
def RX4 : String := "BountyDesk"
def TX4 : u_T := fun k => match k with
  | 0 => ("BountyDesk", "books", "LBountyDesk$Books;", true)
  | 1 => ("BountyDesk", "forecast", "LBountyDesk$Books;", true)
  | 2 => ("BountyDesk", "before", "[LBountyDesk$Books;", true)
  | 3 => ("BountyDesk", "standings", "[I", true)
  | 4 => ("BountyDesk", "nextSlot", "I", false)
  | _ => ("BountyDesk", "deeds", "I", false)
def tyX4 : Nat → FieldType := fun k => match k with
  | 0 => .object "BountyDesk$Books"
  | 1 => .object "BountyDesk$Books"
  | 2 => .array (.object "BountyDesk$Books")
  | 3 => .array .int
  | 4 => .int
  | _ => .int
theorem nmX4 : ∀ a, a < 6 → ∀ b, b < 6 → a ≠ b → (TX4 a).2.1 ≠ (TX4 b).2.1 := by decide +kernel
theorem tyX4_ok : ∀ k, k < 6 → parseFieldDescriptor (TX4 k).2.2.1 = some (tyX4 k) := by decide +kernel
abbrev cX4_init : ByteArray := prog_1_method_1_code
def yX4_init : MethodName := ⟨RX4, "<init>", "()V"⟩
abbrev cX4_addAsset : ByteArray := prog_1_method_2_code
def yX4_addAsset : MethodName := ⟨RX4, "addAsset", "(II)I"⟩
abbrev cX4_addHunter : ByteArray := prog_1_method_3_code
def yX4_addHunter : MethodName := ⟨RX4, "addHunter", "()I"⟩
abbrev cX4_fill : ByteArray := prog_1_method_4_code
def yX4_fill : MethodName := ⟨RX4, "fill", "(I)I"⟩
abbrev cX4_setRate : ByteArray := prog_1_method_5_code
def yX4_setRate : MethodName := ⟨RX4, "setRate", "(I)I"⟩
abbrev cX4_setBonus : ByteArray := prog_1_method_6_code
def yX4_setBonus : MethodName := ⟨RX4, "setBonus", "(I)I"⟩
abbrev cX4_report : ByteArray := prog_1_method_7_code
def yX4_report : MethodName := ⟨RX4, "report", "(III)I"⟩
abbrev cX4_fold : ByteArray := prog_1_method_8_code
def yX4_fold : MethodName := ⟨RX4, "fold", "(I)I"⟩
abbrev cX4_grade : ByteArray := prog_1_method_9_code
def yX4_grade : MethodName := ⟨RX4, "grade", "(II)I"⟩
abbrev cX4_refuse : ByteArray := prog_1_method_10_code
def yX4_refuse : MethodName := ⟨RX4, "refuse", "(I)I"⟩
abbrev cX4_appeal : ByteArray := prog_1_method_11_code
def yX4_appeal : MethodName := ⟨RX4, "appeal", "(II)I"⟩
abbrev cX4_decide : ByteArray := prog_1_method_12_code
def yX4_decide : MethodName := ⟨RX4, "decide", "(II)I"⟩
abbrev cX4_pay : ByteArray := prog_1_method_13_code
def yX4_pay : MethodName := ⟨RX4, "pay", "(I)I"⟩
abbrev cX4_retest : ByteArray := prog_1_method_14_code
def yX4_retest : MethodName := ⟨RX4, "retest", "(III)I"⟩
abbrev cX4_pass : ByteArray := prog_1_method_15_code
def yX4_pass : MethodName := ⟨RX4, "pass", "(I)I"⟩
abbrev cX4_undo : ByteArray := prog_1_method_16_code
def yX4_undo : MethodName := ⟨RX4, "undo", "()I"⟩
abbrev cX4_count : ByteArray := prog_1_method_17_code
def yX4_count : MethodName := ⟨RX4, "count", "(I)I"⟩
abbrev cX4_asset : ByteArray := prog_1_method_18_code
def yX4_asset : MethodName := ⟨RX4, "asset", "(II)I"⟩
abbrev cX4_hunter : ByteArray := prog_1_method_19_code
def yX4_hunter : MethodName := ⟨RX4, "hunter", "(II)I"⟩
abbrev cX4_reportOf : ByteArray := prog_1_method_20_code
def yX4_reportOf : MethodName := ⟨RX4, "reportOf", "(II)I"⟩
abbrev cX4_original : ByteArray := prog_1_method_21_code
def yX4_original : MethodName := ⟨RX4, "original", "(I)I"⟩
abbrev cX4_lack : ByteArray := prog_1_method_22_code
def yX4_lack : MethodName := ⟨RX4, "lack", "()I"⟩
abbrev cX4_best : ByteArray := prog_1_method_23_code
def yX4_best : MethodName := ⟨RX4, "best", "(I)I"⟩
abbrev cX4_paidIn : ByteArray := prog_1_method_24_code
def yX4_paidIn : MethodName := ⟨RX4, "paidIn", "(I)I"⟩
abbrev cX4_isOutside : ByteArray := prog_1_method_25_code
def yX4_isOutside : MethodName := ⟨RX4, "isOutside", "(III)Z"⟩
abbrev cX4_remember : ByteArray := prog_1_method_26_code
def yX4_remember : MethodName := ⟨RX4, "remember", "()V"⟩
abbrev cX4_huntersAheadOf : ByteArray := prog_1_method_27_code
def yX4_huntersAheadOf : MethodName := ⟨RX4, "huntersAheadOf", "(I)I"⟩
abbrev cX4_isAhead : ByteArray := prog_1_method_28_code
def yX4_isAhead : MethodName := ⟨RX4, "isAhead", "(II)Z"⟩
def RX5 : String := "BountyDeskModel"
def TX5 : u_T := fun k => match k with
  | 0 => ("BountyDeskModel", "s", "[I", true)
  | 1 => ("BountyDeskModel", "past", "[I", true)
  | 2 => ("BountyDeskModel", "aside", "[I", true)
  | 3 => ("BountyDeskModel", "kept", "I", false)
  | _ => ("BountyDeskModel", "pool", "[I", true)
def tyX5 : Nat → FieldType := fun k => match k with
  | 0 => .array .int
  | 1 => .array .int
  | 2 => .array .int
  | 3 => .int
  | _ => .array .int
theorem nmX5 : ∀ a, a < 5 → ∀ b, b < 5 → a ≠ b → (TX5 a).2.1 ≠ (TX5 b).2.1 := by decide +kernel
theorem tyX5_ok : ∀ k, k < 5 → parseFieldDescriptor (TX5 k).2.2.1 = some (tyX5 k) := by decide +kernel
abbrev cX5_init : ByteArray := prog_7_method_1_code
def yX5_init : MethodName := ⟨RX5, "<init>", "()V"⟩
abbrev cX5_in : ByteArray := prog_7_method_2_code
def yX5_in : MethodName := ⟨RX5, "in", "(III)Z"⟩
abbrev cX5_has : ByteArray := prog_7_method_3_code
def yX5_has : MethodName := ⟨RX5, "has", "(II)Z"⟩
abbrev cX5_ones : ByteArray := prog_7_method_4_code
def yX5_ones : MethodName := ⟨RX5, "ones", "(I)I"⟩
abbrev cX5_lesser : ByteArray := prog_7_method_5_code
def yX5_lesser : MethodName := ⟨RX5, "lesser", "(II)I"⟩
abbrev cX5_keeps : ByteArray := prog_7_method_6_code
def yX5_keeps : MethodName := ⟨RX5, "keeps", "()V"⟩
abbrev cX5_undo : ByteArray := prog_7_method_7_code
def yX5_undo : MethodName := ⟨RX5, "undo", "()I"⟩
abbrev cX5_isAsset : ByteArray := prog_7_method_8_code
def yX5_isAsset : MethodName := ⟨RX5, "isAsset", "(I)Z"⟩
abbrev cX5_isHunter : ByteArray := prog_7_method_9_code
def yX5_isHunter : MethodName := ⟨RX5, "isHunter", "(I)Z"⟩
abbrev cX5_isReport : ByteArray := prog_7_method_10_code
def yX5_isReport : MethodName := ⟨RX5, "isReport", "(I)Z"⟩
abbrev cX5_atAsset : ByteArray := prog_7_method_11_code
def yX5_atAsset : MethodName := ⟨RX5, "atAsset", "(II)I"⟩
abbrev cX5_atHunter : ByteArray := prog_7_method_12_code
def yX5_atHunter : MethodName := ⟨RX5, "atHunter", "(II)I"⟩
abbrev cX5_at : ByteArray := prog_7_method_13_code
def yX5_at : MethodName := ⟨RX5, "at", "(II)I"⟩
abbrev cX5_of : ByteArray := prog_7_method_14_code
def yX5_of : MethodName := ⟨RX5, "of", "(II)I"⟩
abbrev cX5_addAsset : ByteArray := prog_7_method_15_code
def yX5_addAsset : MethodName := ⟨RX5, "addAsset", "(II)I"⟩
abbrev cX5_addHunter : ByteArray := prog_7_method_16_code
def yX5_addHunter : MethodName := ⟨RX5, "addHunter", "()I"⟩
abbrev cX5_fill : ByteArray := prog_7_method_17_code
def yX5_fill : MethodName := ⟨RX5, "fill", "(I)I"⟩
abbrev cX5_sets : ByteArray := prog_7_method_18_code
def yX5_sets : MethodName := ⟨RX5, "sets", "(IIII)I"⟩
abbrev cX5_setRate : ByteArray := prog_7_method_19_code
def yX5_setRate : MethodName := ⟨RX5, "setRate", "(I)I"⟩
abbrev cX5_setBonus : ByteArray := prog_7_method_20_code
def yX5_setBonus : MethodName := ⟨RX5, "setBonus", "(I)I"⟩
abbrev cX5_report : ByteArray := prog_7_method_21_code
def yX5_report : MethodName := ⟨RX5, "report", "(III)I"⟩
abbrev cX5_originalOf : ByteArray := prog_7_method_22_code
def yX5_originalOf : MethodName := ⟨RX5, "originalOf", "(I)I"⟩
abbrev cX5_original : ByteArray := prog_7_method_23_code
def yX5_original : MethodName := ⟨RX5, "original", "(I)I"⟩
abbrev cX5_fold : ByteArray := prog_7_method_24_code
def yX5_fold : MethodName := ⟨RX5, "fold", "(I)I"⟩
abbrev cX5_unfolds : ByteArray := prog_7_method_25_code
def yX5_unfolds : MethodName := ⟨RX5, "unfolds", "(I)I"⟩
abbrev cX5_priceBy : ByteArray := prog_7_method_26_code
def yX5_priceBy : MethodName := ⟨RX5, "priceBy", "(II)I"⟩
abbrev cX5_price : ByteArray := prog_7_method_27_code
def yX5_price : MethodName := ⟨RX5, "price", "(I)I"⟩
abbrev cX5_isDue : ByteArray := prog_7_method_28_code
def yX5_isDue : MethodName := ⟨RX5, "isDue", "(I)Z"⟩
abbrev cX5_isOpen : ByteArray := prog_7_method_29_code
def yX5_isOpen : MethodName := ⟨RX5, "isOpen", "(I)Z"⟩
abbrev cX5_grade : ByteArray := prog_7_method_30_code
def yX5_grade : MethodName := ⟨RX5, "grade", "(II)I"⟩
abbrev cX5_refuse : ByteArray := prog_7_method_31_code
def yX5_refuse : MethodName := ⟨RX5, "refuse", "(I)I"⟩
abbrev cX5_appeal : ByteArray := prog_7_method_32_code
def yX5_appeal : MethodName := ⟨RX5, "appeal", "(II)I"⟩
abbrev cX5_decide : ByteArray := prog_7_method_33_code
def yX5_decide : MethodName := ⟨RX5, "decide", "(II)I"⟩
abbrev cX5_gives : ByteArray := prog_7_method_34_code
def yX5_gives : MethodName := ⟨RX5, "gives", "(II)V"⟩
abbrev cX5_pays : ByteArray := prog_7_method_35_code
def yX5_pays : MethodName := ⟨RX5, "pays", "(I)I"⟩
abbrev cX5_pay : ByteArray := prog_7_method_36_code
def yX5_pay : MethodName := ⟨RX5, "pay", "(I)I"⟩
abbrev cX5_begins : ByteArray := prog_7_method_37_code
def yX5_begins : MethodName := ⟨RX5, "begins", "()I"⟩
abbrev cX5_pass : ByteArray := prog_7_method_38_code
def yX5_pass : MethodName := ⟨RX5, "pass", "(I)I"⟩
abbrev cX5_hasReported : ByteArray := prog_7_method_39_code
def yX5_hasReported : MethodName := ⟨RX5, "hasReported", "(II)Z"⟩
abbrev cX5_givesBonuses : ByteArray := prog_7_method_40_code
def yX5_givesBonuses : MethodName := ⟨RX5, "givesBonuses", "(I)V"⟩
abbrev cX5_isNewAgain : ByteArray := prog_7_method_41_code
def yX5_isNewAgain : MethodName := ⟨RX5, "isNewAgain", "(I)V"⟩
abbrev cX5_retest : ByteArray := prog_7_method_42_code
def yX5_retest : MethodName := ⟨RX5, "retest", "(III)I"⟩
abbrev cX5_standing : ByteArray := prog_7_method_43_code
def yX5_standing : MethodName := ⟨RX5, "standing", "(I)I"⟩
abbrev cX5_inState : ByteArray := prog_7_method_44_code
def yX5_inState : MethodName := ⟨RX5, "inState", "(I)I"⟩
abbrev cX5_pools : ByteArray := prog_7_method_45_code
def yX5_pools : MethodName := ⟨RX5, "pools", "()I"⟩
abbrev cX5_openOnes : ByteArray := prog_7_method_46_code
def yX5_openOnes : MethodName := ⟨RX5, "openOnes", "()I"⟩
abbrev cX5_count : ByteArray := prog_7_method_47_code
def yX5_count : MethodName := ⟨RX5, "count", "(I)I"⟩
abbrev cX5_reportsFor : ByteArray := prog_7_method_48_code
def yX5_reportsFor : MethodName := ⟨RX5, "reportsFor", "(I)I"⟩
abbrev cX5_pricesFor : ByteArray := prog_7_method_49_code
def yX5_pricesFor : MethodName := ⟨RX5, "pricesFor", "(I)I"⟩
abbrev cX5_asset : ByteArray := prog_7_method_50_code
def yX5_asset : MethodName := ⟨RX5, "asset", "(II)I"⟩
abbrev cX5_reportsBy : ByteArray := prog_7_method_51_code
def yX5_reportsBy : MethodName := ⟨RX5, "reportsBy", "(I)I"⟩
abbrev cX5_hunter : ByteArray := prog_7_method_52_code
def yX5_hunter : MethodName := ⟨RX5, "hunter", "(II)I"⟩
abbrev cX5_foldedInto : ByteArray := prog_7_method_53_code
def yX5_foldedInto : MethodName := ⟨RX5, "foldedInto", "(I)I"⟩
abbrev cX5_reportOf : ByteArray := prog_7_method_54_code
def yX5_reportOf : MethodName := ⟨RX5, "reportOf", "(II)I"⟩
abbrev cX5_lack : ByteArray := prog_7_method_55_code
def yX5_lack : MethodName := ⟨RX5, "lack", "()I"⟩
abbrev cX5_isAhead : ByteArray := prog_7_method_56_code
def yX5_isAhead : MethodName := ⟨RX5, "isAhead", "(II)Z"⟩
abbrev cX5_best : ByteArray := prog_7_method_57_code
def yX5_best : MethodName := ⟨RX5, "best", "(I)I"⟩
abbrev cX5_paidIn : ByteArray := prog_7_method_58_code
def yX5_paidIn : MethodName := ⟨RX5, "paidIn", "(I)I"⟩
def RJ6 : String := "java/lang/Integer"
abbrev cJ6_bitCount_0f7a4 : ByteArray := prog_8_method_49_code
def yJ6_bitCount_0f7a4 : MethodName := ⟨RJ6, "bitCount", "(I)I"⟩
def RJ9 : String := "java/lang/Math"
abbrev cJ9_max_7cf53 : ByteArray := prog_9_method_65_code
def yJ9_max_7cf53 : MethodName := ⟨RJ9, "max", "(II)I"⟩
abbrev cJ9_min_7cf53 : ByteArray := prog_9_method_69_code
def yJ9_min_7cf53 : MethodName := ⟨RJ9, "min", "(II)I"⟩
def RL : String := "BountyDeskLaw"
abbrev cL_law : ByteArray := code
def yL_law : MethodName := ⟨RL, "law", "([I)Z"⟩
abbrev vwCl : List vw_C := [(RX0, TX0, 3), (RX1, TX1, 12), (RX2, TX2, 4), (RX3, TX3, 12), (RX4, TX4, 6), (RX5, TX5, 5)]
def tb_R : Nat → String := fun n => match n with
  | 0 => RX0
  | 1 => RX1
  | 2 => RX2
  | 3 => RX3
  | 4 => RX4
  | 5 => RX5
  | 6 => RJ6
  | 7 => RJ9
  | _ => RL
def mX0_init : pm_M := (yX0_init, 0, cX0_init, 1, none, 1, 21)
def mX0_copyFrom : pm_M := (yX0_copyFrom, 0, cX0_copyFrom, 2, none, 0, 0)
def mX1_init : pm_M := (yX1_init, 1, cX1_init, 2, none, 2, 41)
def mX1_copyFrom : pm_M := (yX1_copyFrom, 1, cX1_copyFrom, 3, none, 1, 21)
def mX1_hasAsset : pm_M := (yX1_hasAsset, 1, cX1_hasAsset, 2, some .boolean, 0, 0)
def mX1_hasHunter : pm_M := (yX1_hasHunter, 1, cX1_hasHunter, 2, some .boolean, 0, 0)
def mX1_hasReport : pm_M := (yX1_hasReport, 1, cX1_hasReport, 2, some .boolean, 0, 0)
def mX1_openAsset : pm_M := (yX1_openAsset, 1, cX1_openAsset, 4, some .int, 0, 0)
def mX1_openHunter : pm_M := (yX1_openHunter, 1, cX1_openHunter, 1, some .int, 1, 20)
def mX1_openReport : pm_M := (yX1_openReport, 1, cX1_openReport, 4, some .int, 2, 43)
def mX1_foldTarget : pm_M := (yX1_foldTarget, 1, cX1_foldTarget, 6, some .int, 1, 21)
def mX1_releaseFolded : pm_M := (yX1_releaseFolded, 1, cX1_releaseFolded, 4, some .int, 1, 20)
def mX1_priceWith : pm_M := (yX1_priceWith, 1, cX1_priceWith, 3, some .int, 0, 0)
def mX1_priceOf : pm_M := (yX1_priceOf, 1, cX1_priceOf, 2, some .int, 1, 22)
def mX1_closeAppeal : pm_M := (yX1_closeAppeal, 1, cX1_closeAppeal, 4, some .int, 0, 0)
def mX1_payOrWait : pm_M := (yX1_payOrWait, 1, cX1_payOrWait, 6, some .int, 2, 43)
def mX1_shareOut : pm_M := (yX1_shareOut, 1, cX1_shareOut, 7, none, 0, 0)
def mX1_beginQuarter : pm_M := (yX1_beginQuarter, 1, cX1_beginQuarter, 5, some .int, 3, 68)
def mX1_isReportedBy : pm_M := (yX1_isReportedBy, 1, cX1_isReportedBy, 4, some .boolean, 0, 0)
def mX1_takeRetest : pm_M := (yX1_takeRetest, 1, cX1_takeRetest, 6, some .int, 2, 43)
def mX1_giveBonuses : pm_M := (yX1_giveBonuses, 1, cX1_giveBonuses, 4, none, 1, 20)
def mX1_standingOf : pm_M := (yX1_standingOf, 1, cX1_standingOf, 5, some .int, 1, 20)
def mX1_standingFor : pm_M := (yX1_standingFor, 1, cX1_standingFor, 1, some .int, 0, 0)
def mX1_reportsInState : pm_M := (yX1_reportsInState, 1, cX1_reportsInState, 4, some .int, 0, 0)
def mX1_reportsFor : pm_M := (yX1_reportsFor, 1, cX1_reportsFor, 4, some .int, 0, 0)
def mX1_reportsBy : pm_M := (yX1_reportsBy, 1, cX1_reportsBy, 4, some .int, 0, 0)
def mX1_foldedReports : pm_M := (yX1_foldedReports, 1, cX1_foldedReports, 4, some .int, 0, 0)
def mX1_openAppeals : pm_M := (yX1_openAppeals, 1, cX1_openAppeals, 3, some .int, 0, 0)
def mX1_moneyInPools : pm_M := (yX1_moneyInPools, 1, cX1_moneyInPools, 3, some .int, 0, 0)
def mX1_payablePrices : pm_M := (yX1_payablePrices, 1, cX1_payablePrices, 4, some .int, 2, 43)
def mX2_init : pm_M := (yX2_init, 2, cX2_init, 1, none, 1, 21)
def mX2_clear : pm_M := (yX2_clear, 2, cX2_clear, 1, none, 0, 0)
def mX2_copyFrom : pm_M := (yX2_copyFrom, 2, cX2_copyFrom, 2, none, 0, 0)
def mX3_init : pm_M := (yX3_init, 3, cX3_init, 1, none, 1, 21)
def mX3_open : pm_M := (yX3_open, 3, cX3_open, 4, none, 1, 20)
def mX3_makeNew : pm_M := (yX3_makeNew, 3, cX3_makeNew, 1, none, 0, 0)
def mX3_isPayable : pm_M := (yX3_isPayable, 3, cX3_isPayable, 1, some .boolean, 0, 0)
def mX3_hasSeverity : pm_M := (yX3_hasSeverity, 3, cX3_hasSeverity, 1, some .boolean, 1, 20)
def mX3_isRetestedBy : pm_M := (yX3_isRetestedBy, 3, cX3_isRetestedBy, 2, some .boolean, 0, 0)
def mX3_tellsSameAs : pm_M := (yX3_tellsSameAs, 3, cX3_tellsSameAs, 2, some .boolean, 0, 0)
def mX3_copyFrom : pm_M := (yX3_copyFrom, 3, cX3_copyFrom, 2, none, 0, 0)
def mX4_init : pm_M := (yX4_init, 4, cX4_init, 2, none, 3, 62)
def mX4_addAsset : pm_M := (yX4_addAsset, 4, cX4_addAsset, 3, some .int, 3, 63)
def mX4_addHunter : pm_M := (yX4_addHunter, 4, cX4_addHunter, 1, some .int, 3, 63)
def mX4_fill : pm_M := (yX4_fill, 4, cX4_fill, 2, some .int, 3, 63)
def mX4_setRate : pm_M := (yX4_setRate, 4, cX4_setRate, 3, some .int, 3, 63)
def mX4_setBonus : pm_M := (yX4_setBonus, 4, cX4_setBonus, 3, some .int, 3, 63)
def mX4_report : pm_M := (yX4_report, 4, cX4_report, 4, some .int, 3, 66)
def mX4_fold : pm_M := (yX4_fold, 4, cX4_fold, 4, some .int, 3, 63)
def mX4_grade : pm_M := (yX4_grade, 4, cX4_grade, 4, some .int, 3, 63)
def mX4_refuse : pm_M := (yX4_refuse, 4, cX4_refuse, 3, some .int, 3, 63)
def mX4_appeal : pm_M := (yX4_appeal, 4, cX4_appeal, 4, some .int, 3, 63)
def mX4_decide : pm_M := (yX4_decide, 4, cX4_decide, 4, some .int, 3, 63)
def mX4_pay : pm_M := (yX4_pay, 4, cX4_pay, 3, some .int, 3, 68)
def mX4_retest : pm_M := (yX4_retest, 4, cX4_retest, 5, some .int, 3, 68)
def mX4_pass : pm_M := (yX4_pass, 4, cX4_pass, 5, some .int, 4, 92)
def mX4_undo : pm_M := (yX4_undo, 4, cX4_undo, 1, some .int, 2, 43)
def mX4_count : pm_M := (yX4_count, 4, cX4_count, 2, some .int, 1, 23)
def mX4_asset : pm_M := (yX4_asset, 4, cX4_asset, 4, some .int, 3, 66)
def mX4_hunter : pm_M := (yX4_hunter, 4, cX4_hunter, 4, some .int, 2, 44)
def mX4_reportOf : pm_M := (yX4_reportOf, 4, cX4_reportOf, 4, some .int, 2, 43)
def mX4_original : pm_M := (yX4_original, 4, cX4_original, 2, some .int, 2, 46)
def mX4_lack : pm_M := (yX4_lack, 4, cX4_lack, 3, some .int, 3, 66)
def mX4_best : pm_M := (yX4_best, 4, cX4_best, 3, some .int, 2, 47)
def mX4_paidIn : pm_M := (yX4_paidIn, 4, cX4_paidIn, 4, some .int, 4, 92)
def mX4_isOutside : pm_M := (yX4_isOutside, 4, cX4_isOutside, 3, some .boolean, 0, 0)
def mX4_remember : pm_M := (yX4_remember, 4, cX4_remember, 1, none, 2, 43)
def mX4_huntersAheadOf : pm_M := (yX4_huntersAheadOf, 4, cX4_huntersAheadOf, 4, some .int, 1, 24)
def mX4_isAhead : pm_M := (yX4_isAhead, 4, cX4_isAhead, 5, some .boolean, 0, 0)
def mX5_init : pm_M := (yX5_init, 5, cX5_init, 1, none, 1, 21)
def mX5_in : pm_M := (yX5_in, 5, cX5_in, 3, some .boolean, 0, 0)
def mX5_has : pm_M := (yX5_has, 5, cX5_has, 2, some .boolean, 0, 0)
def mX5_ones : pm_M := (yX5_ones, 5, cX5_ones, 3, some .int, 0, 0)
def mX5_lesser : pm_M := (yX5_lesser, 5, cX5_lesser, 2, some .int, 0, 0)
def mX5_keeps : pm_M := (yX5_keeps, 5, cX5_keeps, 2, none, 0, 0)
def mX5_undo : pm_M := (yX5_undo, 5, cX5_undo, 2, some .int, 0, 0)
def mX5_isAsset : pm_M := (yX5_isAsset, 5, cX5_isAsset, 2, some .boolean, 1, 22)
def mX5_isHunter : pm_M := (yX5_isHunter, 5, cX5_isHunter, 2, some .boolean, 1, 22)
def mX5_isReport : pm_M := (yX5_isReport, 5, cX5_isReport, 2, some .boolean, 1, 22)
def mX5_atAsset : pm_M := (yX5_atAsset, 5, cX5_atAsset, 2, some .int, 0, 0)
def mX5_atHunter : pm_M := (yX5_atHunter, 5, cX5_atHunter, 2, some .int, 0, 0)
def mX5_at : pm_M := (yX5_at, 5, cX5_at, 2, some .int, 0, 0)
def mX5_of : pm_M := (yX5_of, 5, cX5_of, 3, some .int, 1, 21)
def mX5_addAsset : pm_M := (yX5_addAsset, 5, cX5_addAsset, 4, some .int, 1, 22)
def mX5_addHunter : pm_M := (yX5_addHunter, 5, cX5_addHunter, 1, some .int, 1, 21)
def mX5_fill : pm_M := (yX5_fill, 5, cX5_fill, 2, some .int, 1, 22)
def mX5_sets : pm_M := (yX5_sets, 5, cX5_sets, 6, some .int, 1, 22)
def mX5_setRate : pm_M := (yX5_setRate, 5, cX5_setRate, 2, some .int, 2, 47)
def mX5_setBonus : pm_M := (yX5_setBonus, 5, cX5_setBonus, 2, some .int, 2, 47)
def mX5_report : pm_M := (yX5_report, 5, cX5_report, 6, some .int, 2, 43)
def mX5_originalOf : pm_M := (yX5_originalOf, 5, cX5_originalOf, 3, some .int, 2, 43)
def mX5_original : pm_M := (yX5_original, 5, cX5_original, 2, some .int, 3, 65)
def mX5_fold : pm_M := (yX5_fold, 5, cX5_fold, 3, some .int, 3, 65)
def mX5_unfolds : pm_M := (yX5_unfolds, 5, cX5_unfolds, 4, some .int, 2, 43)
def mX5_priceBy : pm_M := (yX5_priceBy, 5, cX5_priceBy, 3, some .int, 2, 43)
def mX5_price : pm_M := (yX5_price, 5, cX5_price, 2, some .int, 3, 65)
def mX5_isDue : pm_M := (yX5_isDue, 5, cX5_isDue, 2, some .boolean, 2, 43)
def mX5_isOpen : pm_M := (yX5_isOpen, 5, cX5_isOpen, 2, some .boolean, 2, 43)
def mX5_grade : pm_M := (yX5_grade, 5, cX5_grade, 3, some .int, 4, 86)
def mX5_refuse : pm_M := (yX5_refuse, 5, cX5_refuse, 2, some .int, 3, 66)
def mX5_appeal : pm_M := (yX5_appeal, 5, cX5_appeal, 3, some .int, 3, 65)
def mX5_decide : pm_M := (yX5_decide, 5, cX5_decide, 5, some .int, 3, 64)
def mX5_gives : pm_M := (yX5_gives, 5, cX5_gives, 3, none, 1, 21)
def mX5_pays : pm_M := (yX5_pays, 5, cX5_pays, 8, some .int, 4, 86)
def mX5_pay : pm_M := (yX5_pay, 5, cX5_pay, 2, some .int, 5, 113)
def mX5_begins : pm_M := (yX5_begins, 5, cX5_begins, 4, some .int, 5, 113)
def mX5_pass : pm_M := (yX5_pass, 5, cX5_pass, 4, some .int, 6, 136)
def mX5_hasReported : pm_M := (yX5_hasReported, 5, cX5_hasReported, 5, some .boolean, 2, 43)
def mX5_givesBonuses : pm_M := (yX5_givesBonuses, 5, cX5_givesBonuses, 4, none, 2, 43)
def mX5_isNewAgain : pm_M := (yX5_isNewAgain, 5, cX5_isNewAgain, 3, none, 3, 66)
def mX5_retest : pm_M := (yX5_retest, 5, cX5_retest, 6, some .int, 4, 88)
def mX5_standing : pm_M := (yX5_standing, 5, cX5_standing, 5, some .int, 2, 43)
def mX5_inState : pm_M := (yX5_inState, 5, cX5_inState, 4, some .int, 2, 43)
def mX5_pools : pm_M := (yX5_pools, 5, cX5_pools, 3, some .int, 1, 21)
def mX5_openOnes : pm_M := (yX5_openOnes, 5, cX5_openOnes, 3, some .int, 3, 64)
def mX5_count : pm_M := (yX5_count, 5, cX5_count, 2, some .int, 4, 86)
def mX5_reportsFor : pm_M := (yX5_reportsFor, 5, cX5_reportsFor, 4, some .int, 2, 43)
def mX5_pricesFor : pm_M := (yX5_pricesFor, 5, cX5_pricesFor, 4, some .int, 4, 86)
def mX5_asset : pm_M := (yX5_asset, 5, cX5_asset, 3, some .int, 5, 109)
def mX5_reportsBy : pm_M := (yX5_reportsBy, 5, cX5_reportsBy, 4, some .int, 2, 43)
def mX5_hunter : pm_M := (yX5_hunter, 5, cX5_hunter, 3, some .int, 3, 67)
def mX5_foldedInto : pm_M := (yX5_foldedInto, 5, cX5_foldedInto, 4, some .int, 2, 43)
def mX5_reportOf : pm_M := (yX5_reportOf, 5, cX5_reportOf, 4, some .int, 4, 86)
def mX5_lack : pm_M := (yX5_lack, 5, cX5_lack, 4, some .int, 4, 86)
def mX5_isAhead : pm_M := (yX5_isAhead, 5, cX5_isAhead, 4, some .boolean, 3, 67)
def mX5_best : pm_M := (yX5_best, 5, cX5_best, 5, some .int, 4, 90)
def mX5_paidIn : pm_M := (yX5_paidIn, 5, cX5_paidIn, 6, some .int, 6, 136)
def mJ6_bitCount_0f7a4 : pm_M := (yJ6_bitCount_0f7a4, 6, cJ6_bitCount_0f7a4, 1, some .int, 0, 0)
def mJ9_max_7cf53 : pm_M := (yJ9_max_7cf53, 7, cJ9_max_7cf53, 2, some .int, 0, 0)
def mJ9_min_7cf53 : pm_M := (yJ9_min_7cf53, 7, cJ9_min_7cf53, 2, some .int, 0, 0)
def mL_law : pm_M := (yL_law, 8, cL_law, 4, some .boolean, 9, 322)
def tb_f : List (Nat × Nat × Nat × Nat) := [(0, 7, 0, 0), (1, 70, 0, 0), (4, 173, 0, 0), (0, 13, 0, 1), (1, 73, 0, 1), (4, 178, 0, 1), (0, 16, 0, 2), (1, 76, 0, 2), (4, 181, 0, 2), (2, 7, 2, 0), (1, 141, 2, 0), (4, 197, 2, 0), (2, 13, 2, 1), (1, 118, 2, 1), (4, 205, 2, 1), (2, 16, 2, 2), (1, 121, 2, 2), (4, 208, 2, 2), (2, 19, 2, 3), (1, 170, 2, 3), (4, 211, 2, 3), (3, 15, 3, 0), (1, 115, 3, 0), (4, 214, 3, 0), (3, 18, 3, 1), (1, 99, 3, 1), (4, 217, 3, 1), (3, 21, 3, 2), (4, 220, 3, 2), (3, 30, 3, 3), (4, 91, 3, 3), (1, 86, 3, 3), (3, 33, 3, 4), (4, 99, 3, 4), (1, 102, 3, 4), (3, 9, 3, 5), (4, 96, 3, 5), (1, 93, 3, 5), (3, 36, 3, 6), (4, 110, 3, 6), (1, 109, 3, 6), (3, 39, 3, 7), (4, 116, 3, 7), (1, 112, 3, 7), (3, 24, 3, 8), (1, 134, 3, 8), (4, 229, 3, 8), (3, 42, 3, 9), (1, 148, 3, 9), (4, 232, 3, 9), (3, 45, 3, 10), (1, 151, 3, 10), (4, 240, 3, 10), (3, 48, 3, 11), (4, 129, 3, 11), (1, 163, 3, 11), (1, 11, 1, 0), (4, 169, 1, 0), (1, 20, 1, 1), (4, 190, 1, 1), (1, 27, 1, 2), (4, 87, 1, 2), (1, 39, 1, 3), (4, 38, 1, 3), (1, 46, 1, 4), (4, 48, 1, 4), (1, 52, 1, 5), (4, 73, 1, 5), (1, 58, 1, 6), (4, 144, 1, 6), (1, 61, 1, 7), (4, 56, 1, 7), (1, 32, 1, 8), (4, 60, 1, 8), (1, 36, 1, 9), (4, 63, 1, 9), (1, 64, 1, 10), (4, 160, 1, 10), (1, 67, 1, 11), (4, 163, 1, 11), (4, 10, 4, 0), (4, 16, 4, 1), (4, 19, 4, 2), (4, 23, 4, 3), (4, 27, 4, 4), (4, 31, 4, 5), (5, 7, 5, 0), (5, 13, 5, 1), (5, 16, 5, 2), (5, 22, 5, 3), (5, 19, 5, 4)]
def tb_c : List (Nat × Nat × Nat × pm_M × Nat) := [
  (8, 9, 2, mX4_init, 0),
  (4, 1, 3, mL_law, 0),
  (4, 9, 2, mX1_init, 0),
  (1, 3, 3, mL_law, 0),
  (1, 17, 2, mX0_init, 0),
  (0, 1, 3, mL_law, 0),
  (1, 24, 2, mX2_init, 0),
  (2, 1, 3, mL_law, 0),
  (1, 31, 2, mX3_init, 0),
  (3, 3, 3, mL_law, 0),
  (8, 13, 0, mX4_addAsset, 2),
  (4, 34, 1, mX4_isOutside, 3),
  (4, 41, 0, mX4_remember, 0),
  (4, 150, 0, mX1_copyFrom, 1),
  (1, 42, 0, mX0_copyFrom, 1),
  (1, 49, 0, mX2_copyFrom, 1),
  (1, 55, 0, mX3_copyFrom, 1),
  (4, 251, 5, mJ9_min_7cf53, 2),
  (4, 44, 0, mX1_openAsset, 2),
  (8, 18, 0, mX4_addHunter, 0),
  (4, 51, 0, mX1_openHunter, 0),
  (1, 79, 0, mX2_clear, 0),
  (8, 23, 0, mX4_fill, 1),
  (8, 28, 0, mX4_setRate, 1),
  (8, 32, 0, mX4_setBonus, 1),
  (8, 36, 0, mX4_report, 3),
  (4, 66, 0, mX1_hasHunter, 1),
  (4, 70, 0, mX1_hasAsset, 1),
  (4, 76, 0, mX1_openReport, 3),
  (1, 82, 0, mX3_open, 3),
  (3, 27, 0, mX3_makeNew, 0),
  (8, 41, 0, mX4_fold, 1),
  (4, 80, 0, mX1_hasReport, 1),
  (4, 83, 0, mX1_foldTarget, 1),
  (1, 89, 0, mX3_tellsSameAs, 1),
  (8, 45, 0, mX4_grade, 2),
  (4, 102, 0, mX1_priceOf, 1),
  (1, 105, 0, mX1_priceWith, 2),
  (8, 49, 0, mX4_refuse, 1),
  (4, 106, 0, mX3_isPayable, 0),
  (4, 113, 0, mX1_releaseFolded, 1),
  (1, 96, 0, mX3_makeNew, 0),
  (8, 53, 0, mX4_appeal, 2),
  (4, 119, 0, mX1_priceWith, 2),
  (8, 57, 0, mX4_decide, 2),
  (4, 123, 0, mX1_closeAppeal, 2),
  (8, 61, 0, mX4_pay, 1),
  (4, 126, 0, mX1_payOrWait, 1),
  (1, 124, 0, mX1_priceOf, 1),
  (1, 128, 5, mJ9_min_7cf53, 2),
  (1, 137, 0, mX1_shareOut, 2),
  (8, 65, 0, mX4_retest, 3),
  (4, 133, 0, mX3_isRetestedBy, 1),
  (4, 136, 0, mX1_isReportedBy, 2),
  (4, 140, 0, mX1_takeRetest, 3),
  (1, 154, 1, mJ6_bitCount_0f7a4, 1),
  (1, 159, 0, mX1_giveBonuses, 1),
  (1, 167, 0, mX1_releaseFolded, 1),
  (8, 69, 0, mX4_pass, 1),
  (4, 147, 0, mX1_beginQuarter, 0),
  (1, 144, 0, mX1_payOrWait, 1),
  (8, 73, 0, mX4_undo, 0),
  (8, 77, 0, mX4_count, 1),
  (4, 154, 0, mX1_reportsInState, 1),
  (4, 157, 0, mX1_moneyInPools, 0),
  (4, 166, 0, mX1_openAppeals, 0),
  (8, 81, 0, mX4_asset, 2),
  (4, 184, 0, mX1_reportsFor, 1),
  (4, 187, 0, mX1_payablePrices, 1),
  (1, 176, 0, mX3_isPayable, 0),
  (8, 85, 0, mX4_hunter, 2),
  (4, 194, 0, mX1_reportsBy, 1),
  (4, 202, 0, mX1_standingOf, 1),
  (1, 173, 1, mX1_standingFor, 1),
  (8, 89, 0, mX4_reportOf, 2),
  (4, 223, 0, mX3_hasSeverity, 0),
  (3, 52, 0, mX3_isPayable, 0),
  (4, 226, 0, mX1_foldedReports, 1),
  (4, 235, 1, mJ6_bitCount_0f7a4, 1),
  (8, 93, 0, mX4_original, 1),
  (8, 97, 0, mX4_lack, 0),
  (4, 243, 4, mJ9_max_7cf53, 2),
  (8, 101, 0, mX4_best, 1),
  (4, 248, 0, mX4_huntersAheadOf, 1),
  (4, 254, 0, mX4_isAhead, 2),
  (8, 105, 0, mX4_paidIn, 1),
  (8, 12, 2, mX5_init, 0),
  (5, 1, 3, mL_law, 0),
  (8, 76, 0, mX5_undo, 0),
  (8, 17, 0, mX5_addAsset, 2),
  (5, 26, 1, mX5_in, 3),
  (5, 34, 0, mX5_keeps, 0),
  (5, 37, 1, mX5_atAsset, 2),
  (8, 22, 0, mX5_addHunter, 0),
  (8, 27, 0, mX5_fill, 1),
  (8, 31, 0, mX5_setRate, 1),
  (5, 42, 0, mX5_sets, 4),
  (8, 35, 0, mX5_setBonus, 1),
  (8, 40, 0, mX5_report, 3),
  (5, 46, 0, mX5_isHunter, 1),
  (5, 50, 0, mX5_isAsset, 1),
  (5, 30, 1, mX5_at, 2),
  (8, 96, 0, mX5_original, 1),
  (5, 56, 0, mX5_isReport, 1),
  (5, 59, 0, mX5_originalOf, 1),
  (5, 53, 0, mX5_of, 2),
  (8, 44, 0, mX5_fold, 1),
  (8, 48, 0, mX5_grade, 2),
  (5, 66, 0, mX5_price, 1),
  (5, 63, 0, mX5_priceBy, 2),
  (8, 52, 0, mX5_refuse, 1),
  (5, 69, 0, mX5_isOpen, 1),
  (5, 72, 0, mX5_unfolds, 1),
  (8, 56, 0, mX5_appeal, 2),
  (5, 75, 0, mX5_isDue, 1),
  (8, 60, 0, mX5_decide, 2),
  (5, 78, 1, mX5_atHunter, 2),
  (8, 64, 0, mX5_pay, 1),
  (5, 88, 0, mX5_pays, 1),
  (5, 81, 1, mX5_lesser, 2),
  (5, 84, 0, mX5_gives, 2),
  (8, 72, 0, mX5_pass, 1),
  (5, 91, 0, mX5_begins, 0),
  (8, 68, 0, mX5_retest, 3),
  (5, 98, 1, mX5_has, 2),
  (5, 102, 0, mX5_hasReported, 2),
  (5, 95, 1, mX5_ones, 1),
  (5, 105, 0, mX5_givesBonuses, 1),
  (5, 109, 0, mX5_isNewAgain, 1),
  (8, 80, 0, mX5_count, 1),
  (5, 112, 0, mX5_pools, 0),
  (5, 115, 0, mX5_openOnes, 0),
  (5, 118, 0, mX5_inState, 1),
  (8, 84, 0, mX5_asset, 2),
  (5, 121, 0, mX5_reportsFor, 1),
  (5, 124, 0, mX5_pricesFor, 1),
  (8, 88, 0, mX5_hunter, 2),
  (5, 127, 0, mX5_reportsBy, 1),
  (5, 130, 0, mX5_standing, 1),
  (8, 92, 0, mX5_reportOf, 2),
  (5, 133, 0, mX5_foldedInto, 1),
  (8, 100, 0, mX5_lack, 0),
  (8, 104, 0, mX5_best, 1),
  (5, 136, 0, mX5_isAhead, 2),
  (8, 108, 0, mX5_paidIn, 1)]
def tb_k : List (Nat × Nat × Int32) := [(4, 55, 100000), (4, 59, 1000000), (6, 265, 1431655765), (6, 266, 858993459), (6, 267, 252645135), (5, 40, 100000), (5, 41, 1000000)]
def tb_n : List (Nat × Nat × Nat) := [(4, 7, 1), (1, 9, 0), (1, 18, 2), (1, 25, 3), (8, 7, 4), (8, 10, 5)]
def tb_a : List (Nat × Nat × Nat) := [(4, 7, 1), (1, 9, 0), (1, 18, 2), (1, 25, 3)]
def tb_s : Nat → Nat → Nat := fun c j => match c with
  | 0 => [0, 0, 0].getD j 0
  | 1 => [2, 2, 2, 0, 0, 0, 0, 0, 0, 0, 0, 0].getD j 0
  | 2 => [0, 0, 0, 0].getD j 0
  | 3 => [0, 0, 0, 0, 0, 0, 0, 0, 0, 0, 0, 1].getD j 0
  | 4 => [2, 2, 2, 2, 0, 0].getD j 0
  | 5 => [2, 2, 2, 0, 2].getD j 0
  | _ => 0
def tb_l : Nat → Nat := fun c => [3, 12, 4, 12, 6, 5].getD c 0
def tb_acs : List Nat := [0, 1, 2, 3]
def tb : pm_T := (fun n x => (tb_f.find? (fun e => e.1 == n && e.2.1 == x)).map (fun e => (e.2.2.1, e.2.2.2)), fun n x => (tb_c.find? (fun e => e.1 == n && e.2.1 == x)).map (fun e => (e.2.2.1, e.2.2.2.1, e.2.2.2.2)), fun n x => (tb_k.find? (fun e => e.1 == n && e.2.1 == x)).map (fun e => e.2.2), fun n x => (tb_n.find? (fun e => e.1 == n && e.2.1 == x)).map (fun e => e.2.2), fun n x => (tb_a.find? (fun e => e.1 == n && e.2.1 == x)).map (fun e => e.2.2), tb_s, tb_l)
def tb_T : List Jvm.Cond := lw_tbl.filter goodWord
theorem tb_in {w : Jvm.Cond} (i : Nat) (h : lw_tbl[i]? = some w) (hg : goodWord w = true) : w ∈ tb_T := List.mem_filter.mpr ⟨List.mem_of_getElem? h, hg⟩
theorem tb_find {α : Type} {L : List α} {p : α → Bool} {a : α} (h : L.find? p = some a) : a ∈ L ∧ p a = true := ⟨List.mem_of_find?_eq_some h, List.find?_some h⟩
end
section
theorem dX0_init_0 : decode cX0_init 0 = .ok (.aload_n 0, 1) := by decide +kernel
theorem dX0_init_1 : decode cX0_init 1 = .ok (.invokespecial 1, 3) := by decide +kernel
theorem dX0_init_4 : decode cX0_init 4 = .ok (.return_, 1) := by decide +kernel
theorem dX0_copyFrom_0 : decode cX0_copyFrom 0 = .ok (.aload_n 0, 1) := by decide +kernel
theorem dX0_copyFrom_1 : decode cX0_copyFrom 1 = .ok (.aload_n 1, 1) := by decide +kernel
theorem dX0_copyFrom_2 : decode cX0_copyFrom 2 = .ok (.getfield 7, 3) := by decide +kernel
theorem dX0_copyFrom_5 : decode cX0_copyFrom 5 = .ok (.putfield 7, 3) := by decide +kernel
theorem dX0_copyFrom_8 : decode cX0_copyFrom 8 = .ok (.aload_n 0, 1) := by decide +kernel
theorem dX0_copyFrom_9 : decode cX0_copyFrom 9 = .ok (.aload_n 1, 1) := by decide +kernel
theorem dX0_copyFrom_10 : decode cX0_copyFrom 10 = .ok (.getfield 13, 3) := by decide +kernel
theorem dX0_copyFrom_13 : decode cX0_copyFrom 13 = .ok (.putfield 13, 3) := by decide +kernel
theorem dX0_copyFrom_16 : decode cX0_copyFrom 16 = .ok (.aload_n 0, 1) := by decide +kernel
theorem dX0_copyFrom_17 : decode cX0_copyFrom 17 = .ok (.aload_n 1, 1) := by decide +kernel
theorem dX0_copyFrom_18 : decode cX0_copyFrom 18 = .ok (.getfield 16, 3) := by decide +kernel
theorem dX0_copyFrom_21 : decode cX0_copyFrom 21 = .ok (.putfield 16, 3) := by decide +kernel
theorem dX0_copyFrom_24 : decode cX0_copyFrom 24 = .ok (.return_, 1) := by decide +kernel
theorem dX1_init_0 : decode cX1_init 0 = .ok (.aload_n 0, 1) := by decide +kernel
theorem dX1_init_1 : decode cX1_init 1 = .ok (.invokespecial 3, 3) := by decide +kernel
theorem dX1_init_4 : decode cX1_init 4 = .ok (.aload_n 0, 1) := by decide +kernel
theorem dX1_init_5 : decode cX1_init 5 = .ok (.bipush 6, 2) := by decide +kernel
theorem dX1_init_7 : decode cX1_init 7 = .ok (.anewarray 9, 3) := by decide +kernel
theorem dX1_init_10 : decode cX1_init 10 = .ok (.putfield 11, 3) := by decide +kernel
theorem dX1_init_13 : decode cX1_init 13 = .ok (.iconst 0, 1) := by decide +kernel
theorem dX1_init_14 : decode cX1_init 14 = .ok (.istore_n 1, 1) := by decide +kernel
theorem dX1_init_15 : decode cX1_init 15 = .ok (.iload_n 1, 1) := by decide +kernel
theorem dX1_init_16 : decode cX1_init 16 = .ok (.bipush 6, 2) := by decide +kernel
theorem dX1_init_18 : decode cX1_init 18 = .ok (.if_icmp .ge 22, 3) := by decide +kernel
theorem dX1_init_21 : decode cX1_init 21 = .ok (.aload_n 0, 1) := by decide +kernel
theorem dX1_init_22 : decode cX1_init 22 = .ok (.getfield 11, 3) := by decide +kernel
theorem dX1_init_25 : decode cX1_init 25 = .ok (.iload_n 1, 1) := by decide +kernel
theorem dX1_init_26 : decode cX1_init 26 = .ok (.new 9, 3) := by decide +kernel
theorem dX1_init_29 : decode cX1_init 29 = .ok (.dup, 1) := by decide +kernel
theorem dX1_init_30 : decode cX1_init 30 = .ok (.invokespecial 17, 3) := by decide +kernel
theorem dX1_init_33 : decode cX1_init 33 = .ok (.aastore, 1) := by decide +kernel
theorem dX1_init_34 : decode cX1_init 34 = .ok (.iinc 1 1, 3) := by decide +kernel
theorem dX1_init_37 : decode cX1_init 37 = .ok (.goto (-22), 3) := by decide +kernel
theorem dX1_init_40 : decode cX1_init 40 = .ok (.aload_n 0, 1) := by decide +kernel
theorem dX1_init_41 : decode cX1_init 41 = .ok (.bipush 8, 2) := by decide +kernel
theorem dX1_init_43 : decode cX1_init 43 = .ok (.anewarray 18, 3) := by decide +kernel
theorem dX1_init_46 : decode cX1_init 46 = .ok (.putfield 20, 3) := by decide +kernel
theorem dX1_init_49 : decode cX1_init 49 = .ok (.iconst 0, 1) := by decide +kernel
theorem dX1_init_50 : decode cX1_init 50 = .ok (.istore_n 1, 1) := by decide +kernel
theorem dX1_init_51 : decode cX1_init 51 = .ok (.iload_n 1, 1) := by decide +kernel
theorem dX1_init_52 : decode cX1_init 52 = .ok (.bipush 8, 2) := by decide +kernel
theorem dX1_init_54 : decode cX1_init 54 = .ok (.if_icmp .ge 22, 3) := by decide +kernel
theorem dX1_init_57 : decode cX1_init 57 = .ok (.aload_n 0, 1) := by decide +kernel
theorem dX1_init_58 : decode cX1_init 58 = .ok (.getfield 20, 3) := by decide +kernel
theorem dX1_init_61 : decode cX1_init 61 = .ok (.iload_n 1, 1) := by decide +kernel
theorem dX1_init_62 : decode cX1_init 62 = .ok (.new 18, 3) := by decide +kernel
theorem dX1_init_65 : decode cX1_init 65 = .ok (.dup, 1) := by decide +kernel
theorem dX1_init_66 : decode cX1_init 66 = .ok (.invokespecial 24, 3) := by decide +kernel
theorem dX1_init_69 : decode cX1_init 69 = .ok (.aastore, 1) := by decide +kernel
theorem dX1_init_70 : decode cX1_init 70 = .ok (.iinc 1 1, 3) := by decide +kernel
theorem dX1_init_73 : decode cX1_init 73 = .ok (.goto (-22), 3) := by decide +kernel
theorem dX1_init_76 : decode cX1_init 76 = .ok (.aload_n 0, 1) := by decide +kernel
theorem dX1_init_77 : decode cX1_init 77 = .ok (.bipush 40, 2) := by decide +kernel
theorem dX1_init_79 : decode cX1_init 79 = .ok (.anewarray 25, 3) := by decide +kernel
theorem dX1_init_82 : decode cX1_init 82 = .ok (.putfield 27, 3) := by decide +kernel
theorem dX1_init_85 : decode cX1_init 85 = .ok (.iconst 0, 1) := by decide +kernel
theorem dX1_init_86 : decode cX1_init 86 = .ok (.istore_n 1, 1) := by decide +kernel
theorem dX1_init_87 : decode cX1_init 87 = .ok (.iload_n 1, 1) := by decide +kernel
theorem dX1_init_88 : decode cX1_init 88 = .ok (.bipush 40, 2) := by decide +kernel
theorem dX1_init_90 : decode cX1_init 90 = .ok (.if_icmp .ge 22, 3) := by decide +kernel
theorem dX1_init_93 : decode cX1_init 93 = .ok (.aload_n 0, 1) := by decide +kernel
theorem dX1_init_94 : decode cX1_init 94 = .ok (.getfield 27, 3) := by decide +kernel
theorem dX1_init_97 : decode cX1_init 97 = .ok (.iload_n 1, 1) := by decide +kernel
theorem dX1_init_98 : decode cX1_init 98 = .ok (.new 25, 3) := by decide +kernel
theorem dX1_init_101 : decode cX1_init 101 = .ok (.dup, 1) := by decide +kernel
theorem dX1_init_102 : decode cX1_init 102 = .ok (.invokespecial 31, 3) := by decide +kernel
theorem dX1_init_105 : decode cX1_init 105 = .ok (.aastore, 1) := by decide +kernel
theorem dX1_init_106 : decode cX1_init 106 = .ok (.iinc 1 1, 3) := by decide +kernel
theorem dX1_init_109 : decode cX1_init 109 = .ok (.goto (-22), 3) := by decide +kernel
theorem dX1_init_112 : decode cX1_init 112 = .ok (.aload_n 0, 1) := by decide +kernel
theorem dX1_init_113 : decode cX1_init 113 = .ok (.bipush 100, 2) := by decide +kernel
theorem dX1_init_115 : decode cX1_init 115 = .ok (.putfield 32, 3) := by decide +kernel
theorem dX1_init_118 : decode cX1_init 118 = .ok (.aload_n 0, 1) := by decide +kernel
theorem dX1_init_119 : decode cX1_init 119 = .ok (.bipush 20, 2) := by decide +kernel
theorem dX1_init_121 : decode cX1_init 121 = .ok (.putfield 36, 3) := by decide +kernel
theorem dX1_init_124 : decode cX1_init 124 = .ok (.return_, 1) := by decide +kernel
theorem dX1_copyFrom_0 : decode cX1_copyFrom 0 = .ok (.aload_n 0, 1) := by decide +kernel
theorem dX1_copyFrom_1 : decode cX1_copyFrom 1 = .ok (.aload_n 1, 1) := by decide +kernel
theorem dX1_copyFrom_2 : decode cX1_copyFrom 2 = .ok (.getfield 39, 3) := by decide +kernel
theorem dX1_copyFrom_5 : decode cX1_copyFrom 5 = .ok (.putfield 39, 3) := by decide +kernel
theorem dX1_copyFrom_8 : decode cX1_copyFrom 8 = .ok (.iconst 0, 1) := by decide +kernel
theorem dX1_copyFrom_9 : decode cX1_copyFrom 9 = .ok (.istore_n 2, 1) := by decide +kernel
theorem dX1_copyFrom_10 : decode cX1_copyFrom 10 = .ok (.iload_n 2, 1) := by decide +kernel
theorem dX1_copyFrom_11 : decode cX1_copyFrom 11 = .ok (.aload_n 0, 1) := by decide +kernel
theorem dX1_copyFrom_12 : decode cX1_copyFrom 12 = .ok (.getfield 39, 3) := by decide +kernel
theorem dX1_copyFrom_15 : decode cX1_copyFrom 15 = .ok (.if_icmp .ge 24, 3) := by decide +kernel
theorem dX1_copyFrom_18 : decode cX1_copyFrom 18 = .ok (.aload_n 0, 1) := by decide +kernel
theorem dX1_copyFrom_19 : decode cX1_copyFrom 19 = .ok (.getfield 11, 3) := by decide +kernel
theorem dX1_copyFrom_22 : decode cX1_copyFrom 22 = .ok (.iload_n 2, 1) := by decide +kernel
theorem dX1_copyFrom_23 : decode cX1_copyFrom 23 = .ok (.aaload, 1) := by decide +kernel
theorem dX1_copyFrom_24 : decode cX1_copyFrom 24 = .ok (.aload_n 1, 1) := by decide +kernel
theorem dX1_copyFrom_25 : decode cX1_copyFrom 25 = .ok (.getfield 11, 3) := by decide +kernel
theorem dX1_copyFrom_28 : decode cX1_copyFrom 28 = .ok (.iload_n 2, 1) := by decide +kernel
theorem dX1_copyFrom_29 : decode cX1_copyFrom 29 = .ok (.aaload, 1) := by decide +kernel
theorem dX1_copyFrom_30 : decode cX1_copyFrom 30 = .ok (.invokevirtual 42, 3) := by decide +kernel
theorem dX1_copyFrom_33 : decode cX1_copyFrom 33 = .ok (.iinc 2 1, 3) := by decide +kernel
theorem dX1_copyFrom_36 : decode cX1_copyFrom 36 = .ok (.goto (-26), 3) := by decide +kernel
theorem dX1_copyFrom_39 : decode cX1_copyFrom 39 = .ok (.aload_n 0, 1) := by decide +kernel
theorem dX1_copyFrom_40 : decode cX1_copyFrom 40 = .ok (.aload_n 1, 1) := by decide +kernel
theorem dX1_copyFrom_41 : decode cX1_copyFrom 41 = .ok (.getfield 46, 3) := by decide +kernel
theorem dX1_copyFrom_44 : decode cX1_copyFrom 44 = .ok (.putfield 46, 3) := by decide +kernel
theorem dX1_copyFrom_47 : decode cX1_copyFrom 47 = .ok (.iconst 0, 1) := by decide +kernel
theorem dX1_copyFrom_48 : decode cX1_copyFrom 48 = .ok (.istore_n 2, 1) := by decide +kernel
theorem dX1_copyFrom_49 : decode cX1_copyFrom 49 = .ok (.iload_n 2, 1) := by decide +kernel
theorem dX1_copyFrom_50 : decode cX1_copyFrom 50 = .ok (.aload_n 0, 1) := by decide +kernel
theorem dX1_copyFrom_51 : decode cX1_copyFrom 51 = .ok (.getfield 46, 3) := by decide +kernel
theorem dX1_copyFrom_54 : decode cX1_copyFrom 54 = .ok (.if_icmp .ge 24, 3) := by decide +kernel
theorem dX1_copyFrom_57 : decode cX1_copyFrom 57 = .ok (.aload_n 0, 1) := by decide +kernel
theorem dX1_copyFrom_58 : decode cX1_copyFrom 58 = .ok (.getfield 20, 3) := by decide +kernel
theorem dX1_copyFrom_61 : decode cX1_copyFrom 61 = .ok (.iload_n 2, 1) := by decide +kernel
theorem dX1_copyFrom_62 : decode cX1_copyFrom 62 = .ok (.aaload, 1) := by decide +kernel
theorem dX1_copyFrom_63 : decode cX1_copyFrom 63 = .ok (.aload_n 1, 1) := by decide +kernel
theorem dX1_copyFrom_64 : decode cX1_copyFrom 64 = .ok (.getfield 20, 3) := by decide +kernel
theorem dX1_copyFrom_67 : decode cX1_copyFrom 67 = .ok (.iload_n 2, 1) := by decide +kernel
theorem dX1_copyFrom_68 : decode cX1_copyFrom 68 = .ok (.aaload, 1) := by decide +kernel
theorem dX1_copyFrom_69 : decode cX1_copyFrom 69 = .ok (.invokevirtual 49, 3) := by decide +kernel
theorem dX1_copyFrom_72 : decode cX1_copyFrom 72 = .ok (.iinc 2 1, 3) := by decide +kernel
theorem dX1_copyFrom_75 : decode cX1_copyFrom 75 = .ok (.goto (-26), 3) := by decide +kernel
theorem dX1_copyFrom_78 : decode cX1_copyFrom 78 = .ok (.aload_n 0, 1) := by decide +kernel
theorem dX1_copyFrom_79 : decode cX1_copyFrom 79 = .ok (.aload_n 1, 1) := by decide +kernel
theorem dX1_copyFrom_80 : decode cX1_copyFrom 80 = .ok (.getfield 52, 3) := by decide +kernel
theorem dX1_copyFrom_83 : decode cX1_copyFrom 83 = .ok (.putfield 52, 3) := by decide +kernel
theorem dX1_copyFrom_86 : decode cX1_copyFrom 86 = .ok (.iconst 0, 1) := by decide +kernel
theorem dX1_copyFrom_87 : decode cX1_copyFrom 87 = .ok (.istore_n 2, 1) := by decide +kernel
theorem dX1_copyFrom_88 : decode cX1_copyFrom 88 = .ok (.iload_n 2, 1) := by decide +kernel
theorem dX1_copyFrom_89 : decode cX1_copyFrom 89 = .ok (.aload_n 0, 1) := by decide +kernel
theorem dX1_copyFrom_90 : decode cX1_copyFrom 90 = .ok (.getfield 52, 3) := by decide +kernel
theorem dX1_copyFrom_93 : decode cX1_copyFrom 93 = .ok (.if_icmp .ge 24, 3) := by decide +kernel
theorem dX1_copyFrom_96 : decode cX1_copyFrom 96 = .ok (.aload_n 0, 1) := by decide +kernel
theorem dX1_copyFrom_97 : decode cX1_copyFrom 97 = .ok (.getfield 27, 3) := by decide +kernel
theorem dX1_copyFrom_100 : decode cX1_copyFrom 100 = .ok (.iload_n 2, 1) := by decide +kernel
theorem dX1_copyFrom_101 : decode cX1_copyFrom 101 = .ok (.aaload, 1) := by decide +kernel
theorem dX1_copyFrom_102 : decode cX1_copyFrom 102 = .ok (.aload_n 1, 1) := by decide +kernel
theorem dX1_copyFrom_103 : decode cX1_copyFrom 103 = .ok (.getfield 27, 3) := by decide +kernel
theorem dX1_copyFrom_106 : decode cX1_copyFrom 106 = .ok (.iload_n 2, 1) := by decide +kernel
theorem dX1_copyFrom_107 : decode cX1_copyFrom 107 = .ok (.aaload, 1) := by decide +kernel
theorem dX1_copyFrom_108 : decode cX1_copyFrom 108 = .ok (.invokevirtual 55, 3) := by decide +kernel
theorem dX1_copyFrom_111 : decode cX1_copyFrom 111 = .ok (.iinc 2 1, 3) := by decide +kernel
theorem dX1_copyFrom_114 : decode cX1_copyFrom 114 = .ok (.goto (-26), 3) := by decide +kernel
theorem dX1_copyFrom_117 : decode cX1_copyFrom 117 = .ok (.aload_n 0, 1) := by decide +kernel
theorem dX1_copyFrom_118 : decode cX1_copyFrom 118 = .ok (.aload_n 1, 1) := by decide +kernel
theorem dX1_copyFrom_119 : decode cX1_copyFrom 119 = .ok (.getfield 58, 3) := by decide +kernel
theorem dX1_copyFrom_122 : decode cX1_copyFrom 122 = .ok (.putfield 58, 3) := by decide +kernel
theorem dX1_copyFrom_125 : decode cX1_copyFrom 125 = .ok (.aload_n 0, 1) := by decide +kernel
theorem dX1_copyFrom_126 : decode cX1_copyFrom 126 = .ok (.aload_n 1, 1) := by decide +kernel
theorem dX1_copyFrom_127 : decode cX1_copyFrom 127 = .ok (.getfield 61, 3) := by decide +kernel
theorem dX1_copyFrom_130 : decode cX1_copyFrom 130 = .ok (.putfield 61, 3) := by decide +kernel
theorem dX1_copyFrom_133 : decode cX1_copyFrom 133 = .ok (.aload_n 0, 1) := by decide +kernel
theorem dX1_copyFrom_134 : decode cX1_copyFrom 134 = .ok (.aload_n 1, 1) := by decide +kernel
theorem dX1_copyFrom_135 : decode cX1_copyFrom 135 = .ok (.getfield 32, 3) := by decide +kernel
theorem dX1_copyFrom_138 : decode cX1_copyFrom 138 = .ok (.putfield 32, 3) := by decide +kernel
theorem dX1_copyFrom_141 : decode cX1_copyFrom 141 = .ok (.aload_n 0, 1) := by decide +kernel
theorem dX1_copyFrom_142 : decode cX1_copyFrom 142 = .ok (.aload_n 1, 1) := by decide +kernel
theorem dX1_copyFrom_143 : decode cX1_copyFrom 143 = .ok (.getfield 36, 3) := by decide +kernel
theorem dX1_copyFrom_146 : decode cX1_copyFrom 146 = .ok (.putfield 36, 3) := by decide +kernel
theorem dX1_copyFrom_149 : decode cX1_copyFrom 149 = .ok (.aload_n 0, 1) := by decide +kernel
theorem dX1_copyFrom_150 : decode cX1_copyFrom 150 = .ok (.aload_n 1, 1) := by decide +kernel
theorem dX1_copyFrom_151 : decode cX1_copyFrom 151 = .ok (.getfield 64, 3) := by decide +kernel
theorem dX1_copyFrom_154 : decode cX1_copyFrom 154 = .ok (.putfield 64, 3) := by decide +kernel
theorem dX1_copyFrom_157 : decode cX1_copyFrom 157 = .ok (.aload_n 0, 1) := by decide +kernel
theorem dX1_copyFrom_158 : decode cX1_copyFrom 158 = .ok (.aload_n 1, 1) := by decide +kernel
theorem dX1_copyFrom_159 : decode cX1_copyFrom 159 = .ok (.getfield 67, 3) := by decide +kernel
theorem dX1_copyFrom_162 : decode cX1_copyFrom 162 = .ok (.putfield 67, 3) := by decide +kernel
theorem dX1_copyFrom_165 : decode cX1_copyFrom 165 = .ok (.return_, 1) := by decide +kernel
theorem dX1_hasAsset_0 : decode cX1_hasAsset 0 = .ok (.iload_n 1, 1) := by decide +kernel
theorem dX1_hasAsset_1 : decode cX1_hasAsset 1 = .ok (.ifCond .lt 15, 3) := by decide +kernel
theorem dX1_hasAsset_4 : decode cX1_hasAsset 4 = .ok (.iload_n 1, 1) := by decide +kernel
theorem dX1_hasAsset_5 : decode cX1_hasAsset 5 = .ok (.aload_n 0, 1) := by decide +kernel
theorem dX1_hasAsset_6 : decode cX1_hasAsset 6 = .ok (.getfield 39, 3) := by decide +kernel
theorem dX1_hasAsset_9 : decode cX1_hasAsset 9 = .ok (.if_icmp .ge 7, 3) := by decide +kernel
theorem dX1_hasAsset_12 : decode cX1_hasAsset 12 = .ok (.iconst 1, 1) := by decide +kernel
theorem dX1_hasAsset_13 : decode cX1_hasAsset 13 = .ok (.goto 4, 3) := by decide +kernel
theorem dX1_hasAsset_16 : decode cX1_hasAsset 16 = .ok (.iconst 0, 1) := by decide +kernel
theorem dX1_hasAsset_17 : decode cX1_hasAsset 17 = .ok (.ireturn, 1) := by decide +kernel
theorem dX1_hasHunter_0 : decode cX1_hasHunter 0 = .ok (.iload_n 1, 1) := by decide +kernel
theorem dX1_hasHunter_1 : decode cX1_hasHunter 1 = .ok (.ifCond .lt 15, 3) := by decide +kernel
theorem dX1_hasHunter_4 : decode cX1_hasHunter 4 = .ok (.iload_n 1, 1) := by decide +kernel
theorem dX1_hasHunter_5 : decode cX1_hasHunter 5 = .ok (.aload_n 0, 1) := by decide +kernel
theorem dX1_hasHunter_6 : decode cX1_hasHunter 6 = .ok (.getfield 46, 3) := by decide +kernel
theorem dX1_hasHunter_9 : decode cX1_hasHunter 9 = .ok (.if_icmp .ge 7, 3) := by decide +kernel
theorem dX1_hasHunter_12 : decode cX1_hasHunter 12 = .ok (.iconst 1, 1) := by decide +kernel
theorem dX1_hasHunter_13 : decode cX1_hasHunter 13 = .ok (.goto 4, 3) := by decide +kernel
theorem dX1_hasHunter_16 : decode cX1_hasHunter 16 = .ok (.iconst 0, 1) := by decide +kernel
theorem dX1_hasHunter_17 : decode cX1_hasHunter 17 = .ok (.ireturn, 1) := by decide +kernel
theorem dX1_hasReport_0 : decode cX1_hasReport 0 = .ok (.iload_n 1, 1) := by decide +kernel
theorem dX1_hasReport_1 : decode cX1_hasReport 1 = .ok (.ifCond .lt 15, 3) := by decide +kernel
theorem dX1_hasReport_4 : decode cX1_hasReport 4 = .ok (.iload_n 1, 1) := by decide +kernel
theorem dX1_hasReport_5 : decode cX1_hasReport 5 = .ok (.aload_n 0, 1) := by decide +kernel
theorem dX1_hasReport_6 : decode cX1_hasReport 6 = .ok (.getfield 52, 3) := by decide +kernel
theorem dX1_hasReport_9 : decode cX1_hasReport 9 = .ok (.if_icmp .ge 7, 3) := by decide +kernel
theorem dX1_hasReport_12 : decode cX1_hasReport 12 = .ok (.iconst 1, 1) := by decide +kernel
theorem dX1_hasReport_13 : decode cX1_hasReport 13 = .ok (.goto 4, 3) := by decide +kernel
theorem dX1_hasReport_16 : decode cX1_hasReport 16 = .ok (.iconst 0, 1) := by decide +kernel
theorem dX1_hasReport_17 : decode cX1_hasReport 17 = .ok (.ireturn, 1) := by decide +kernel
theorem dX1_openAsset_0 : decode cX1_openAsset 0 = .ok (.aload_n 0, 1) := by decide +kernel
theorem dX1_openAsset_1 : decode cX1_openAsset 1 = .ok (.getfield 11, 3) := by decide +kernel
theorem dX1_openAsset_4 : decode cX1_openAsset 4 = .ok (.aload_n 0, 1) := by decide +kernel
theorem dX1_openAsset_5 : decode cX1_openAsset 5 = .ok (.getfield 39, 3) := by decide +kernel
theorem dX1_openAsset_8 : decode cX1_openAsset 8 = .ok (.aaload, 1) := by decide +kernel
theorem dX1_openAsset_9 : decode cX1_openAsset 9 = .ok (.astore_n 3, 1) := by decide +kernel
theorem dX1_openAsset_10 : decode cX1_openAsset 10 = .ok (.aload_n 3, 1) := by decide +kernel
theorem dX1_openAsset_11 : decode cX1_openAsset 11 = .ok (.iload_n 1, 1) := by decide +kernel
theorem dX1_openAsset_12 : decode cX1_openAsset 12 = .ok (.putfield 70, 3) := by decide +kernel
theorem dX1_openAsset_15 : decode cX1_openAsset 15 = .ok (.aload_n 3, 1) := by decide +kernel
theorem dX1_openAsset_16 : decode cX1_openAsset 16 = .ok (.iload_n 2, 1) := by decide +kernel
theorem dX1_openAsset_17 : decode cX1_openAsset 17 = .ok (.putfield 73, 3) := by decide +kernel
theorem dX1_openAsset_20 : decode cX1_openAsset 20 = .ok (.aload_n 3, 1) := by decide +kernel
theorem dX1_openAsset_21 : decode cX1_openAsset 21 = .ok (.iload_n 2, 1) := by decide +kernel
theorem dX1_openAsset_22 : decode cX1_openAsset 22 = .ok (.putfield 76, 3) := by decide +kernel
theorem dX1_openAsset_25 : decode cX1_openAsset 25 = .ok (.aload_n 0, 1) := by decide +kernel
theorem dX1_openAsset_26 : decode cX1_openAsset 26 = .ok (.dup, 1) := by decide +kernel
theorem dX1_openAsset_27 : decode cX1_openAsset 27 = .ok (.getfield 39, 3) := by decide +kernel
theorem dX1_openAsset_30 : decode cX1_openAsset 30 = .ok (.iconst 1, 1) := by decide +kernel
theorem dX1_openAsset_31 : decode cX1_openAsset 31 = .ok (.iadd, 1) := by decide +kernel
theorem dX1_openAsset_32 : decode cX1_openAsset 32 = .ok (.putfield 39, 3) := by decide +kernel
theorem dX1_openAsset_35 : decode cX1_openAsset 35 = .ok (.aload_n 0, 1) := by decide +kernel
theorem dX1_openAsset_36 : decode cX1_openAsset 36 = .ok (.getfield 39, 3) := by decide +kernel
theorem dX1_openAsset_39 : decode cX1_openAsset 39 = .ok (.iconst 1, 1) := by decide +kernel
theorem dX1_openAsset_40 : decode cX1_openAsset 40 = .ok (.isub, 1) := by decide +kernel
theorem dX1_openAsset_41 : decode cX1_openAsset 41 = .ok (.ireturn, 1) := by decide +kernel
theorem dX1_openHunter_0 : decode cX1_openHunter 0 = .ok (.aload_n 0, 1) := by decide +kernel
theorem dX1_openHunter_1 : decode cX1_openHunter 1 = .ok (.getfield 20, 3) := by decide +kernel
theorem dX1_openHunter_4 : decode cX1_openHunter 4 = .ok (.aload_n 0, 1) := by decide +kernel
theorem dX1_openHunter_5 : decode cX1_openHunter 5 = .ok (.getfield 46, 3) := by decide +kernel
theorem dX1_openHunter_8 : decode cX1_openHunter 8 = .ok (.aaload, 1) := by decide +kernel
theorem dX1_openHunter_9 : decode cX1_openHunter 9 = .ok (.invokevirtual 79, 3) := by decide +kernel
theorem dX1_openHunter_12 : decode cX1_openHunter 12 = .ok (.aload_n 0, 1) := by decide +kernel
theorem dX1_openHunter_13 : decode cX1_openHunter 13 = .ok (.dup, 1) := by decide +kernel
theorem dX1_openHunter_14 : decode cX1_openHunter 14 = .ok (.getfield 46, 3) := by decide +kernel
theorem dX1_openHunter_17 : decode cX1_openHunter 17 = .ok (.iconst 1, 1) := by decide +kernel
theorem dX1_openHunter_18 : decode cX1_openHunter 18 = .ok (.iadd, 1) := by decide +kernel
theorem dX1_openHunter_19 : decode cX1_openHunter 19 = .ok (.putfield 46, 3) := by decide +kernel
theorem dX1_openHunter_22 : decode cX1_openHunter 22 = .ok (.aload_n 0, 1) := by decide +kernel
theorem dX1_openHunter_23 : decode cX1_openHunter 23 = .ok (.getfield 46, 3) := by decide +kernel
theorem dX1_openHunter_26 : decode cX1_openHunter 26 = .ok (.iconst 1, 1) := by decide +kernel
theorem dX1_openHunter_27 : decode cX1_openHunter 27 = .ok (.isub, 1) := by decide +kernel
theorem dX1_openHunter_28 : decode cX1_openHunter 28 = .ok (.ireturn, 1) := by decide +kernel
theorem dX1_openReport_0 : decode cX1_openReport 0 = .ok (.aload_n 0, 1) := by decide +kernel
theorem dX1_openReport_1 : decode cX1_openReport 1 = .ok (.getfield 27, 3) := by decide +kernel
theorem dX1_openReport_4 : decode cX1_openReport 4 = .ok (.aload_n 0, 1) := by decide +kernel
theorem dX1_openReport_5 : decode cX1_openReport 5 = .ok (.getfield 52, 3) := by decide +kernel
theorem dX1_openReport_8 : decode cX1_openReport 8 = .ok (.aaload, 1) := by decide +kernel
theorem dX1_openReport_9 : decode cX1_openReport 9 = .ok (.iload_n 1, 1) := by decide +kernel
theorem dX1_openReport_10 : decode cX1_openReport 10 = .ok (.iload_n 2, 1) := by decide +kernel
theorem dX1_openReport_11 : decode cX1_openReport 11 = .ok (.iload_n 3, 1) := by decide +kernel
theorem dX1_openReport_12 : decode cX1_openReport 12 = .ok (.invokevirtual 82, 3) := by decide +kernel
theorem dX1_openReport_15 : decode cX1_openReport 15 = .ok (.aload_n 0, 1) := by decide +kernel
theorem dX1_openReport_16 : decode cX1_openReport 16 = .ok (.dup, 1) := by decide +kernel
theorem dX1_openReport_17 : decode cX1_openReport 17 = .ok (.getfield 52, 3) := by decide +kernel
theorem dX1_openReport_20 : decode cX1_openReport 20 = .ok (.iconst 1, 1) := by decide +kernel
theorem dX1_openReport_21 : decode cX1_openReport 21 = .ok (.iadd, 1) := by decide +kernel
theorem dX1_openReport_22 : decode cX1_openReport 22 = .ok (.putfield 52, 3) := by decide +kernel
theorem dX1_openReport_25 : decode cX1_openReport 25 = .ok (.aload_n 0, 1) := by decide +kernel
theorem dX1_openReport_26 : decode cX1_openReport 26 = .ok (.getfield 52, 3) := by decide +kernel
theorem dX1_openReport_29 : decode cX1_openReport 29 = .ok (.iconst 1, 1) := by decide +kernel
theorem dX1_openReport_30 : decode cX1_openReport 30 = .ok (.isub, 1) := by decide +kernel
theorem dX1_openReport_31 : decode cX1_openReport 31 = .ok (.ireturn, 1) := by decide +kernel
theorem dX1_foldTarget_0 : decode cX1_foldTarget 0 = .ok (.aload_n 0, 1) := by decide +kernel
theorem dX1_foldTarget_1 : decode cX1_foldTarget 1 = .ok (.getfield 27, 3) := by decide +kernel
theorem dX1_foldTarget_4 : decode cX1_foldTarget 4 = .ok (.iload_n 1, 1) := by decide +kernel
theorem dX1_foldTarget_5 : decode cX1_foldTarget 5 = .ok (.aaload, 1) := by decide +kernel
theorem dX1_foldTarget_6 : decode cX1_foldTarget 6 = .ok (.astore_n 2, 1) := by decide +kernel
theorem dX1_foldTarget_7 : decode cX1_foldTarget 7 = .ok (.aload_n 2, 1) := by decide +kernel
theorem dX1_foldTarget_8 : decode cX1_foldTarget 8 = .ok (.getfield 86, 3) := by decide +kernel
theorem dX1_foldTarget_11 : decode cX1_foldTarget 11 = .ok (.ifCond .eq 7, 3) := by decide +kernel
theorem dX1_foldTarget_14 : decode cX1_foldTarget 14 = .ok (.sipush (-10009), 3) := by decide +kernel
theorem dX1_foldTarget_17 : decode cX1_foldTarget 17 = .ok (.ireturn, 1) := by decide +kernel
theorem dX1_foldTarget_18 : decode cX1_foldTarget 18 = .ok (.iconst 0, 1) := by decide +kernel
theorem dX1_foldTarget_19 : decode cX1_foldTarget 19 = .ok (.istore_n 3, 1) := by decide +kernel
theorem dX1_foldTarget_20 : decode cX1_foldTarget 20 = .ok (.iload_n 3, 1) := by decide +kernel
theorem dX1_foldTarget_21 : decode cX1_foldTarget 21 = .ok (.iload_n 1, 1) := by decide +kernel
theorem dX1_foldTarget_22 : decode cX1_foldTarget 22 = .ok (.if_icmp .ge 58, 3) := by decide +kernel
theorem dX1_foldTarget_25 : decode cX1_foldTarget 25 = .ok (.aload_n 0, 1) := by decide +kernel
theorem dX1_foldTarget_26 : decode cX1_foldTarget 26 = .ok (.getfield 27, 3) := by decide +kernel
theorem dX1_foldTarget_29 : decode cX1_foldTarget 29 = .ok (.iload_n 3, 1) := by decide +kernel
theorem dX1_foldTarget_30 : decode cX1_foldTarget 30 = .ok (.aaload, 1) := by decide +kernel
theorem dX1_foldTarget_31 : decode cX1_foldTarget 31 = .ok (.astore 4, 2) := by decide +kernel
theorem dX1_foldTarget_33 : decode cX1_foldTarget 33 = .ok (.aload 4, 2) := by decide +kernel
theorem dX1_foldTarget_35 : decode cX1_foldTarget 35 = .ok (.getfield 86, 3) := by decide +kernel
theorem dX1_foldTarget_38 : decode cX1_foldTarget 38 = .ok (.iconst 4, 1) := by decide +kernel
theorem dX1_foldTarget_39 : decode cX1_foldTarget 39 = .ok (.if_icmp .eq 16, 3) := by decide +kernel
theorem dX1_foldTarget_42 : decode cX1_foldTarget 42 = .ok (.aload 4, 2) := by decide +kernel
theorem dX1_foldTarget_44 : decode cX1_foldTarget 44 = .ok (.getfield 86, 3) := by decide +kernel
theorem dX1_foldTarget_47 : decode cX1_foldTarget 47 = .ok (.iconst 5, 1) := by decide +kernel
theorem dX1_foldTarget_48 : decode cX1_foldTarget 48 = .ok (.if_icmp .eq 7, 3) := by decide +kernel
theorem dX1_foldTarget_51 : decode cX1_foldTarget 51 = .ok (.iconst 1, 1) := by decide +kernel
theorem dX1_foldTarget_52 : decode cX1_foldTarget 52 = .ok (.goto 4, 3) := by decide +kernel
theorem dX1_foldTarget_55 : decode cX1_foldTarget 55 = .ok (.iconst 0, 1) := by decide +kernel
theorem dX1_foldTarget_56 : decode cX1_foldTarget 56 = .ok (.istore 5, 2) := by decide +kernel
theorem dX1_foldTarget_58 : decode cX1_foldTarget 58 = .ok (.iload 5, 2) := by decide +kernel
theorem dX1_foldTarget_60 : decode cX1_foldTarget 60 = .ok (.ifCond .eq 14, 3) := by decide +kernel
theorem dX1_foldTarget_63 : decode cX1_foldTarget 63 = .ok (.aload 4, 2) := by decide +kernel
theorem dX1_foldTarget_65 : decode cX1_foldTarget 65 = .ok (.aload_n 2, 1) := by decide +kernel
theorem dX1_foldTarget_66 : decode cX1_foldTarget 66 = .ok (.invokevirtual 89, 3) := by decide +kernel
theorem dX1_foldTarget_69 : decode cX1_foldTarget 69 = .ok (.ifCond .eq 5, 3) := by decide +kernel
theorem dX1_foldTarget_72 : decode cX1_foldTarget 72 = .ok (.iload_n 3, 1) := by decide +kernel
theorem dX1_foldTarget_73 : decode cX1_foldTarget 73 = .ok (.ireturn, 1) := by decide +kernel
theorem dX1_foldTarget_74 : decode cX1_foldTarget 74 = .ok (.iinc 3 1, 3) := by decide +kernel
theorem dX1_foldTarget_77 : decode cX1_foldTarget 77 = .ok (.goto (-57), 3) := by decide +kernel
theorem dX1_foldTarget_80 : decode cX1_foldTarget 80 = .ok (.sipush (-10009), 3) := by decide +kernel
theorem dX1_foldTarget_83 : decode cX1_foldTarget 83 = .ok (.ireturn, 1) := by decide +kernel
theorem dX1_releaseFolded_0 : decode cX1_releaseFolded 0 = .ok (.iconst 0, 1) := by decide +kernel
theorem dX1_releaseFolded_1 : decode cX1_releaseFolded 1 = .ok (.istore_n 2, 1) := by decide +kernel
theorem dX1_releaseFolded_2 : decode cX1_releaseFolded 2 = .ok (.iconst 0, 1) := by decide +kernel
theorem dX1_releaseFolded_3 : decode cX1_releaseFolded 3 = .ok (.istore_n 3, 1) := by decide +kernel
theorem dX1_releaseFolded_4 : decode cX1_releaseFolded 4 = .ok (.iload_n 3, 1) := by decide +kernel
theorem dX1_releaseFolded_5 : decode cX1_releaseFolded 5 = .ok (.aload_n 0, 1) := by decide +kernel
theorem dX1_releaseFolded_6 : decode cX1_releaseFolded 6 = .ok (.getfield 52, 3) := by decide +kernel
theorem dX1_releaseFolded_9 : decode cX1_releaseFolded 9 = .ok (.if_icmp .ge 34, 3) := by decide +kernel
theorem dX1_releaseFolded_12 : decode cX1_releaseFolded 12 = .ok (.aload_n 0, 1) := by decide +kernel
theorem dX1_releaseFolded_13 : decode cX1_releaseFolded 13 = .ok (.getfield 27, 3) := by decide +kernel
theorem dX1_releaseFolded_16 : decode cX1_releaseFolded 16 = .ok (.iload_n 3, 1) := by decide +kernel
theorem dX1_releaseFolded_17 : decode cX1_releaseFolded 17 = .ok (.aaload, 1) := by decide +kernel
theorem dX1_releaseFolded_18 : decode cX1_releaseFolded 18 = .ok (.getfield 93, 3) := by decide +kernel
theorem dX1_releaseFolded_21 : decode cX1_releaseFolded 21 = .ok (.iload_n 1, 1) := by decide +kernel
theorem dX1_releaseFolded_22 : decode cX1_releaseFolded 22 = .ok (.if_icmp .ne 15, 3) := by decide +kernel
theorem dX1_releaseFolded_25 : decode cX1_releaseFolded 25 = .ok (.aload_n 0, 1) := by decide +kernel
theorem dX1_releaseFolded_26 : decode cX1_releaseFolded 26 = .ok (.getfield 27, 3) := by decide +kernel
theorem dX1_releaseFolded_29 : decode cX1_releaseFolded 29 = .ok (.iload_n 3, 1) := by decide +kernel
theorem dX1_releaseFolded_30 : decode cX1_releaseFolded 30 = .ok (.aaload, 1) := by decide +kernel
theorem dX1_releaseFolded_31 : decode cX1_releaseFolded 31 = .ok (.invokevirtual 96, 3) := by decide +kernel
theorem dX1_releaseFolded_34 : decode cX1_releaseFolded 34 = .ok (.iinc 2 1, 3) := by decide +kernel
theorem dX1_releaseFolded_37 : decode cX1_releaseFolded 37 = .ok (.iinc 3 1, 3) := by decide +kernel
theorem dX1_releaseFolded_40 : decode cX1_releaseFolded 40 = .ok (.goto (-36), 3) := by decide +kernel
theorem dX1_releaseFolded_43 : decode cX1_releaseFolded 43 = .ok (.iload_n 2, 1) := by decide +kernel
theorem dX1_releaseFolded_44 : decode cX1_releaseFolded 44 = .ok (.ireturn, 1) := by decide +kernel
theorem dX1_priceWith_0 : decode cX1_priceWith 0 = .ok (.iload_n 2, 1) := by decide +kernel
theorem dX1_priceWith_1 : decode cX1_priceWith 1 = .ok (.iload_n 2, 1) := by decide +kernel
theorem dX1_priceWith_2 : decode cX1_priceWith 2 = .ok (.imul, 1) := by decide +kernel
theorem dX1_priceWith_3 : decode cX1_priceWith 3 = .ok (.aload_n 0, 1) := by decide +kernel
theorem dX1_priceWith_4 : decode cX1_priceWith 4 = .ok (.getfield 11, 3) := by decide +kernel
theorem dX1_priceWith_7 : decode cX1_priceWith 7 = .ok (.aload_n 1, 1) := by decide +kernel
theorem dX1_priceWith_8 : decode cX1_priceWith 8 = .ok (.getfield 99, 3) := by decide +kernel
theorem dX1_priceWith_11 : decode cX1_priceWith 11 = .ok (.aaload, 1) := by decide +kernel
theorem dX1_priceWith_12 : decode cX1_priceWith 12 = .ok (.getfield 70, 3) := by decide +kernel
theorem dX1_priceWith_15 : decode cX1_priceWith 15 = .ok (.imul, 1) := by decide +kernel
theorem dX1_priceWith_16 : decode cX1_priceWith 16 = .ok (.bipush 10, 2) := by decide +kernel
theorem dX1_priceWith_18 : decode cX1_priceWith 18 = .ok (.imul, 1) := by decide +kernel
theorem dX1_priceWith_19 : decode cX1_priceWith 19 = .ok (.aload_n 0, 1) := by decide +kernel
theorem dX1_priceWith_20 : decode cX1_priceWith 20 = .ok (.getfield 32, 3) := by decide +kernel
theorem dX1_priceWith_23 : decode cX1_priceWith 23 = .ok (.imul, 1) := by decide +kernel
theorem dX1_priceWith_24 : decode cX1_priceWith 24 = .ok (.bipush 100, 2) := by decide +kernel
theorem dX1_priceWith_26 : decode cX1_priceWith 26 = .ok (.idiv, 1) := by decide +kernel
theorem dX1_priceWith_27 : decode cX1_priceWith 27 = .ok (.ireturn, 1) := by decide +kernel
theorem dX1_priceOf_0 : decode cX1_priceOf 0 = .ok (.aload_n 0, 1) := by decide +kernel
theorem dX1_priceOf_1 : decode cX1_priceOf 1 = .ok (.aload_n 1, 1) := by decide +kernel
theorem dX1_priceOf_2 : decode cX1_priceOf 2 = .ok (.aload_n 1, 1) := by decide +kernel
theorem dX1_priceOf_3 : decode cX1_priceOf 3 = .ok (.getfield 102, 3) := by decide +kernel
theorem dX1_priceOf_6 : decode cX1_priceOf 6 = .ok (.invokevirtual 105, 3) := by decide +kernel
theorem dX1_priceOf_9 : decode cX1_priceOf 9 = .ok (.ireturn, 1) := by decide +kernel
theorem dX1_closeAppeal_0 : decode cX1_closeAppeal 0 = .ok (.aload_n 1, 1) := by decide +kernel
theorem dX1_closeAppeal_1 : decode cX1_closeAppeal 1 = .ok (.getfield 102, 3) := by decide +kernel
theorem dX1_closeAppeal_4 : decode cX1_closeAppeal 4 = .ok (.istore_n 3, 1) := by decide +kernel
theorem dX1_closeAppeal_5 : decode cX1_closeAppeal 5 = .ok (.aload_n 1, 1) := by decide +kernel
theorem dX1_closeAppeal_6 : decode cX1_closeAppeal 6 = .ok (.iconst 2, 1) := by decide +kernel
theorem dX1_closeAppeal_7 : decode cX1_closeAppeal 7 = .ok (.putfield 109, 3) := by decide +kernel
theorem dX1_closeAppeal_10 : decode cX1_closeAppeal 10 = .ok (.aload_n 1, 1) := by decide +kernel
theorem dX1_closeAppeal_11 : decode cX1_closeAppeal 11 = .ok (.iload_n 2, 1) := by decide +kernel
theorem dX1_closeAppeal_12 : decode cX1_closeAppeal 12 = .ok (.putfield 102, 3) := by decide +kernel
theorem dX1_closeAppeal_15 : decode cX1_closeAppeal 15 = .ok (.iload_n 2, 1) := by decide +kernel
theorem dX1_closeAppeal_16 : decode cX1_closeAppeal 16 = .ok (.aload_n 1, 1) := by decide +kernel
theorem dX1_closeAppeal_17 : decode cX1_closeAppeal 17 = .ok (.getfield 112, 3) := by decide +kernel
theorem dX1_closeAppeal_20 : decode cX1_closeAppeal 20 = .ok (.if_icmp .ne 23, 3) := by decide +kernel
theorem dX1_closeAppeal_23 : decode cX1_closeAppeal 23 = .ok (.aload_n 0, 1) := by decide +kernel
theorem dX1_closeAppeal_24 : decode cX1_closeAppeal 24 = .ok (.getfield 20, 3) := by decide +kernel
theorem dX1_closeAppeal_27 : decode cX1_closeAppeal 27 = .ok (.aload_n 1, 1) := by decide +kernel
theorem dX1_closeAppeal_28 : decode cX1_closeAppeal 28 = .ok (.getfield 115, 3) := by decide +kernel
theorem dX1_closeAppeal_31 : decode cX1_closeAppeal 31 = .ok (.aaload, 1) := by decide +kernel
theorem dX1_closeAppeal_32 : decode cX1_closeAppeal 32 = .ok (.dup, 1) := by decide +kernel
theorem dX1_closeAppeal_33 : decode cX1_closeAppeal 33 = .ok (.getfield 118, 3) := by decide +kernel
theorem dX1_closeAppeal_36 : decode cX1_closeAppeal 36 = .ok (.iconst 1, 1) := by decide +kernel
theorem dX1_closeAppeal_37 : decode cX1_closeAppeal 37 = .ok (.iadd, 1) := by decide +kernel
theorem dX1_closeAppeal_38 : decode cX1_closeAppeal 38 = .ok (.putfield 118, 3) := by decide +kernel
theorem dX1_closeAppeal_41 : decode cX1_closeAppeal 41 = .ok (.iconst 2, 1) := by decide +kernel
theorem dX1_closeAppeal_42 : decode cX1_closeAppeal 42 = .ok (.ireturn, 1) := by decide +kernel
theorem dX1_closeAppeal_43 : decode cX1_closeAppeal 43 = .ok (.iload_n 2, 1) := by decide +kernel
theorem dX1_closeAppeal_44 : decode cX1_closeAppeal 44 = .ok (.iload_n 3, 1) := by decide +kernel
theorem dX1_closeAppeal_45 : decode cX1_closeAppeal 45 = .ok (.if_icmp .le 5, 3) := by decide +kernel
theorem dX1_closeAppeal_48 : decode cX1_closeAppeal 48 = .ok (.iconst 1, 1) := by decide +kernel
theorem dX1_closeAppeal_49 : decode cX1_closeAppeal 49 = .ok (.ireturn, 1) := by decide +kernel
theorem dX1_closeAppeal_50 : decode cX1_closeAppeal 50 = .ok (.aload_n 0, 1) := by decide +kernel
theorem dX1_closeAppeal_51 : decode cX1_closeAppeal 51 = .ok (.getfield 20, 3) := by decide +kernel
theorem dX1_closeAppeal_54 : decode cX1_closeAppeal 54 = .ok (.aload_n 1, 1) := by decide +kernel
theorem dX1_closeAppeal_55 : decode cX1_closeAppeal 55 = .ok (.getfield 115, 3) := by decide +kernel
theorem dX1_closeAppeal_58 : decode cX1_closeAppeal 58 = .ok (.aaload, 1) := by decide +kernel
theorem dX1_closeAppeal_59 : decode cX1_closeAppeal 59 = .ok (.dup, 1) := by decide +kernel
theorem dX1_closeAppeal_60 : decode cX1_closeAppeal 60 = .ok (.getfield 121, 3) := by decide +kernel
theorem dX1_closeAppeal_63 : decode cX1_closeAppeal 63 = .ok (.iconst 1, 1) := by decide +kernel
theorem dX1_closeAppeal_64 : decode cX1_closeAppeal 64 = .ok (.iadd, 1) := by decide +kernel
theorem dX1_closeAppeal_65 : decode cX1_closeAppeal 65 = .ok (.putfield 121, 3) := by decide +kernel
theorem dX1_closeAppeal_68 : decode cX1_closeAppeal 68 = .ok (.iconst 0, 1) := by decide +kernel
theorem dX1_closeAppeal_69 : decode cX1_closeAppeal 69 = .ok (.ireturn, 1) := by decide +kernel
theorem dX1_payOrWait_0 : decode cX1_payOrWait 0 = .ok (.aload_n 0, 1) := by decide +kernel
theorem dX1_payOrWait_1 : decode cX1_payOrWait 1 = .ok (.getfield 27, 3) := by decide +kernel
theorem dX1_payOrWait_4 : decode cX1_payOrWait 4 = .ok (.iload_n 1, 1) := by decide +kernel
theorem dX1_payOrWait_5 : decode cX1_payOrWait 5 = .ok (.aaload, 1) := by decide +kernel
theorem dX1_payOrWait_6 : decode cX1_payOrWait 6 = .ok (.astore_n 2, 1) := by decide +kernel
theorem dX1_payOrWait_7 : decode cX1_payOrWait 7 = .ok (.aload_n 0, 1) := by decide +kernel
theorem dX1_payOrWait_8 : decode cX1_payOrWait 8 = .ok (.getfield 11, 3) := by decide +kernel
theorem dX1_payOrWait_11 : decode cX1_payOrWait 11 = .ok (.aload_n 2, 1) := by decide +kernel
theorem dX1_payOrWait_12 : decode cX1_payOrWait 12 = .ok (.getfield 99, 3) := by decide +kernel
theorem dX1_payOrWait_15 : decode cX1_payOrWait 15 = .ok (.aaload, 1) := by decide +kernel
theorem dX1_payOrWait_16 : decode cX1_payOrWait 16 = .ok (.astore_n 3, 1) := by decide +kernel
theorem dX1_payOrWait_17 : decode cX1_payOrWait 17 = .ok (.aload_n 0, 1) := by decide +kernel
theorem dX1_payOrWait_18 : decode cX1_payOrWait 18 = .ok (.aload_n 2, 1) := by decide +kernel
theorem dX1_payOrWait_19 : decode cX1_payOrWait 19 = .ok (.invokevirtual 124, 3) := by decide +kernel
theorem dX1_payOrWait_22 : decode cX1_payOrWait 22 = .ok (.istore 4, 2) := by decide +kernel
theorem dX1_payOrWait_24 : decode cX1_payOrWait 24 = .ok (.iload 4, 2) := by decide +kernel
theorem dX1_payOrWait_26 : decode cX1_payOrWait 26 = .ok (.aload_n 3, 1) := by decide +kernel
theorem dX1_payOrWait_27 : decode cX1_payOrWait 27 = .ok (.getfield 76, 3) := by decide +kernel
theorem dX1_payOrWait_30 : decode cX1_payOrWait 30 = .ok (.aload_n 0, 1) := by decide +kernel
theorem dX1_payOrWait_31 : decode cX1_payOrWait 31 = .ok (.getfield 61, 3) := by decide +kernel
theorem dX1_payOrWait_34 : decode cX1_payOrWait 34 = .ok (.iadd, 1) := by decide +kernel
theorem dX1_payOrWait_35 : decode cX1_payOrWait 35 = .ok (.if_icmp .le 10, 3) := by decide +kernel
theorem dX1_payOrWait_38 : decode cX1_payOrWait 38 = .ok (.aload_n 2, 1) := by decide +kernel
theorem dX1_payOrWait_39 : decode cX1_payOrWait 39 = .ok (.iconst 2, 1) := by decide +kernel
theorem dX1_payOrWait_40 : decode cX1_payOrWait 40 = .ok (.putfield 86, 3) := by decide +kernel
theorem dX1_payOrWait_43 : decode cX1_payOrWait 43 = .ok (.iconst 0, 1) := by decide +kernel
theorem dX1_payOrWait_44 : decode cX1_payOrWait 44 = .ok (.ireturn, 1) := by decide +kernel
theorem dX1_payOrWait_45 : decode cX1_payOrWait 45 = .ok (.iload 4, 2) := by decide +kernel
theorem dX1_payOrWait_47 : decode cX1_payOrWait 47 = .ok (.aload_n 3, 1) := by decide +kernel
theorem dX1_payOrWait_48 : decode cX1_payOrWait 48 = .ok (.getfield 76, 3) := by decide +kernel
theorem dX1_payOrWait_51 : decode cX1_payOrWait 51 = .ok (.invokestatic 128, 3) := by decide +kernel
theorem dX1_payOrWait_54 : decode cX1_payOrWait 54 = .ok (.istore 5, 2) := by decide +kernel
theorem dX1_payOrWait_56 : decode cX1_payOrWait 56 = .ok (.aload_n 3, 1) := by decide +kernel
theorem dX1_payOrWait_57 : decode cX1_payOrWait 57 = .ok (.dup, 1) := by decide +kernel
theorem dX1_payOrWait_58 : decode cX1_payOrWait 58 = .ok (.getfield 76, 3) := by decide +kernel
theorem dX1_payOrWait_61 : decode cX1_payOrWait 61 = .ok (.iload 5, 2) := by decide +kernel
theorem dX1_payOrWait_63 : decode cX1_payOrWait 63 = .ok (.isub, 1) := by decide +kernel
theorem dX1_payOrWait_64 : decode cX1_payOrWait 64 = .ok (.putfield 76, 3) := by decide +kernel
theorem dX1_payOrWait_67 : decode cX1_payOrWait 67 = .ok (.aload_n 0, 1) := by decide +kernel
theorem dX1_payOrWait_68 : decode cX1_payOrWait 68 = .ok (.dup, 1) := by decide +kernel
theorem dX1_payOrWait_69 : decode cX1_payOrWait 69 = .ok (.getfield 61, 3) := by decide +kernel
theorem dX1_payOrWait_72 : decode cX1_payOrWait 72 = .ok (.iload 4, 2) := by decide +kernel
theorem dX1_payOrWait_74 : decode cX1_payOrWait 74 = .ok (.iload 5, 2) := by decide +kernel
theorem dX1_payOrWait_76 : decode cX1_payOrWait 76 = .ok (.isub, 1) := by decide +kernel
theorem dX1_payOrWait_77 : decode cX1_payOrWait 77 = .ok (.isub, 1) := by decide +kernel
theorem dX1_payOrWait_78 : decode cX1_payOrWait 78 = .ok (.putfield 61, 3) := by decide +kernel
theorem dX1_payOrWait_81 : decode cX1_payOrWait 81 = .ok (.aload_n 2, 1) := by decide +kernel
theorem dX1_payOrWait_82 : decode cX1_payOrWait 82 = .ok (.iconst 3, 1) := by decide +kernel
theorem dX1_payOrWait_83 : decode cX1_payOrWait 83 = .ok (.putfield 86, 3) := by decide +kernel
theorem dX1_payOrWait_86 : decode cX1_payOrWait 86 = .ok (.aload_n 2, 1) := by decide +kernel
theorem dX1_payOrWait_87 : decode cX1_payOrWait 87 = .ok (.iload 4, 2) := by decide +kernel
theorem dX1_payOrWait_89 : decode cX1_payOrWait 89 = .ok (.putfield 134, 3) := by decide +kernel
theorem dX1_payOrWait_92 : decode cX1_payOrWait 92 = .ok (.aload_n 0, 1) := by decide +kernel
theorem dX1_payOrWait_93 : decode cX1_payOrWait 93 = .ok (.dup, 1) := by decide +kernel
theorem dX1_payOrWait_94 : decode cX1_payOrWait 94 = .ok (.getfield 64, 3) := by decide +kernel
theorem dX1_payOrWait_97 : decode cX1_payOrWait 97 = .ok (.iload 4, 2) := by decide +kernel
theorem dX1_payOrWait_99 : decode cX1_payOrWait 99 = .ok (.iadd, 1) := by decide +kernel
theorem dX1_payOrWait_100 : decode cX1_payOrWait 100 = .ok (.putfield 64, 3) := by decide +kernel
theorem dX1_payOrWait_103 : decode cX1_payOrWait 103 = .ok (.aload_n 0, 1) := by decide +kernel
theorem dX1_payOrWait_104 : decode cX1_payOrWait 104 = .ok (.iload_n 1, 1) := by decide +kernel
theorem dX1_payOrWait_105 : decode cX1_payOrWait 105 = .ok (.iload 4, 2) := by decide +kernel
theorem dX1_payOrWait_107 : decode cX1_payOrWait 107 = .ok (.invokevirtual 137, 3) := by decide +kernel
theorem dX1_payOrWait_110 : decode cX1_payOrWait 110 = .ok (.iload 4, 2) := by decide +kernel
theorem dX1_payOrWait_112 : decode cX1_payOrWait 112 = .ok (.ireturn, 1) := by decide +kernel
theorem dX1_shareOut_0 : decode cX1_shareOut 0 = .ok (.iload_n 2, 1) := by decide +kernel
theorem dX1_shareOut_1 : decode cX1_shareOut 1 = .ok (.bipush 10, 2) := by decide +kernel
theorem dX1_shareOut_3 : decode cX1_shareOut 3 = .ok (.idiv, 1) := by decide +kernel
theorem dX1_shareOut_4 : decode cX1_shareOut 4 = .ok (.istore_n 3, 1) := by decide +kernel
theorem dX1_shareOut_5 : decode cX1_shareOut 5 = .ok (.iload_n 2, 1) := by decide +kernel
theorem dX1_shareOut_6 : decode cX1_shareOut 6 = .ok (.istore 4, 2) := by decide +kernel
theorem dX1_shareOut_8 : decode cX1_shareOut 8 = .ok (.iconst 0, 1) := by decide +kernel
theorem dX1_shareOut_9 : decode cX1_shareOut 9 = .ok (.istore 5, 2) := by decide +kernel
theorem dX1_shareOut_11 : decode cX1_shareOut 11 = .ok (.iconst 0, 1) := by decide +kernel
theorem dX1_shareOut_12 : decode cX1_shareOut 12 = .ok (.istore 6, 2) := by decide +kernel
theorem dX1_shareOut_14 : decode cX1_shareOut 14 = .ok (.iload 6, 2) := by decide +kernel
theorem dX1_shareOut_16 : decode cX1_shareOut 16 = .ok (.aload_n 0, 1) := by decide +kernel
theorem dX1_shareOut_17 : decode cX1_shareOut 17 = .ok (.getfield 52, 3) := by decide +kernel
theorem dX1_shareOut_20 : decode cX1_shareOut 20 = .ok (.if_icmp .ge 62, 3) := by decide +kernel
theorem dX1_shareOut_23 : decode cX1_shareOut 23 = .ok (.iload 5, 2) := by decide +kernel
theorem dX1_shareOut_25 : decode cX1_shareOut 25 = .ok (.iconst 3, 1) := by decide +kernel
theorem dX1_shareOut_26 : decode cX1_shareOut 26 = .ok (.if_icmp .ge 56, 3) := by decide +kernel
theorem dX1_shareOut_29 : decode cX1_shareOut 29 = .ok (.aload_n 0, 1) := by decide +kernel
theorem dX1_shareOut_30 : decode cX1_shareOut 30 = .ok (.getfield 27, 3) := by decide +kernel
theorem dX1_shareOut_33 : decode cX1_shareOut 33 = .ok (.iload 6, 2) := by decide +kernel
theorem dX1_shareOut_35 : decode cX1_shareOut 35 = .ok (.aaload, 1) := by decide +kernel
theorem dX1_shareOut_36 : decode cX1_shareOut 36 = .ok (.getfield 93, 3) := by decide +kernel
theorem dX1_shareOut_39 : decode cX1_shareOut 39 = .ok (.iload_n 1, 1) := by decide +kernel
theorem dX1_shareOut_40 : decode cX1_shareOut 40 = .ok (.if_icmp .ne 36, 3) := by decide +kernel
theorem dX1_shareOut_43 : decode cX1_shareOut 43 = .ok (.aload_n 0, 1) := by decide +kernel
theorem dX1_shareOut_44 : decode cX1_shareOut 44 = .ok (.getfield 20, 3) := by decide +kernel
theorem dX1_shareOut_47 : decode cX1_shareOut 47 = .ok (.aload_n 0, 1) := by decide +kernel
theorem dX1_shareOut_48 : decode cX1_shareOut 48 = .ok (.getfield 27, 3) := by decide +kernel
theorem dX1_shareOut_51 : decode cX1_shareOut 51 = .ok (.iload 6, 2) := by decide +kernel
theorem dX1_shareOut_53 : decode cX1_shareOut 53 = .ok (.aaload, 1) := by decide +kernel
theorem dX1_shareOut_54 : decode cX1_shareOut 54 = .ok (.getfield 115, 3) := by decide +kernel
theorem dX1_shareOut_57 : decode cX1_shareOut 57 = .ok (.aaload, 1) := by decide +kernel
theorem dX1_shareOut_58 : decode cX1_shareOut 58 = .ok (.dup, 1) := by decide +kernel
theorem dX1_shareOut_59 : decode cX1_shareOut 59 = .ok (.getfield 141, 3) := by decide +kernel
theorem dX1_shareOut_62 : decode cX1_shareOut 62 = .ok (.iload_n 3, 1) := by decide +kernel
theorem dX1_shareOut_63 : decode cX1_shareOut 63 = .ok (.iadd, 1) := by decide +kernel
theorem dX1_shareOut_64 : decode cX1_shareOut 64 = .ok (.putfield 141, 3) := by decide +kernel
theorem dX1_shareOut_67 : decode cX1_shareOut 67 = .ok (.iload 4, 2) := by decide +kernel
theorem dX1_shareOut_69 : decode cX1_shareOut 69 = .ok (.iload_n 3, 1) := by decide +kernel
theorem dX1_shareOut_70 : decode cX1_shareOut 70 = .ok (.isub, 1) := by decide +kernel
theorem dX1_shareOut_71 : decode cX1_shareOut 71 = .ok (.istore 4, 2) := by decide +kernel
theorem dX1_shareOut_73 : decode cX1_shareOut 73 = .ok (.iinc 5 1, 3) := by decide +kernel
theorem dX1_shareOut_76 : decode cX1_shareOut 76 = .ok (.iinc 6 1, 3) := by decide +kernel
theorem dX1_shareOut_79 : decode cX1_shareOut 79 = .ok (.goto (-65), 3) := by decide +kernel
theorem dX1_shareOut_82 : decode cX1_shareOut 82 = .ok (.aload_n 0, 1) := by decide +kernel
theorem dX1_shareOut_83 : decode cX1_shareOut 83 = .ok (.getfield 20, 3) := by decide +kernel
theorem dX1_shareOut_86 : decode cX1_shareOut 86 = .ok (.aload_n 0, 1) := by decide +kernel
theorem dX1_shareOut_87 : decode cX1_shareOut 87 = .ok (.getfield 27, 3) := by decide +kernel
theorem dX1_shareOut_90 : decode cX1_shareOut 90 = .ok (.iload_n 1, 1) := by decide +kernel
theorem dX1_shareOut_91 : decode cX1_shareOut 91 = .ok (.aaload, 1) := by decide +kernel
theorem dX1_shareOut_92 : decode cX1_shareOut 92 = .ok (.getfield 115, 3) := by decide +kernel
theorem dX1_shareOut_95 : decode cX1_shareOut 95 = .ok (.aaload, 1) := by decide +kernel
theorem dX1_shareOut_96 : decode cX1_shareOut 96 = .ok (.dup, 1) := by decide +kernel
theorem dX1_shareOut_97 : decode cX1_shareOut 97 = .ok (.getfield 141, 3) := by decide +kernel
theorem dX1_shareOut_100 : decode cX1_shareOut 100 = .ok (.iload 4, 2) := by decide +kernel
theorem dX1_shareOut_102 : decode cX1_shareOut 102 = .ok (.iadd, 1) := by decide +kernel
theorem dX1_shareOut_103 : decode cX1_shareOut 103 = .ok (.putfield 141, 3) := by decide +kernel
theorem dX1_shareOut_106 : decode cX1_shareOut 106 = .ok (.return_, 1) := by decide +kernel
theorem dX1_beginQuarter_0 : decode cX1_beginQuarter 0 = .ok (.iconst 0, 1) := by decide +kernel
theorem dX1_beginQuarter_1 : decode cX1_beginQuarter 1 = .ok (.istore_n 1, 1) := by decide +kernel
theorem dX1_beginQuarter_2 : decode cX1_beginQuarter 2 = .ok (.iload_n 1, 1) := by decide +kernel
theorem dX1_beginQuarter_3 : decode cX1_beginQuarter 3 = .ok (.aload_n 0, 1) := by decide +kernel
theorem dX1_beginQuarter_4 : decode cX1_beginQuarter 4 = .ok (.getfield 39, 3) := by decide +kernel
theorem dX1_beginQuarter_7 : decode cX1_beginQuarter 7 = .ok (.if_icmp .ge 53, 3) := by decide +kernel
theorem dX1_beginQuarter_10 : decode cX1_beginQuarter 10 = .ok (.aload_n 0, 1) := by decide +kernel
theorem dX1_beginQuarter_11 : decode cX1_beginQuarter 11 = .ok (.getfield 11, 3) := by decide +kernel
theorem dX1_beginQuarter_14 : decode cX1_beginQuarter 14 = .ok (.iload_n 1, 1) := by decide +kernel
theorem dX1_beginQuarter_15 : decode cX1_beginQuarter 15 = .ok (.aaload, 1) := by decide +kernel
theorem dX1_beginQuarter_16 : decode cX1_beginQuarter 16 = .ok (.astore_n 2, 1) := by decide +kernel
theorem dX1_beginQuarter_17 : decode cX1_beginQuarter 17 = .ok (.aload_n 2, 1) := by decide +kernel
theorem dX1_beginQuarter_18 : decode cX1_beginQuarter 18 = .ok (.getfield 76, 3) := by decide +kernel
theorem dX1_beginQuarter_21 : decode cX1_beginQuarter 21 = .ok (.aload_n 2, 1) := by decide +kernel
theorem dX1_beginQuarter_22 : decode cX1_beginQuarter 22 = .ok (.getfield 73, 3) := by decide +kernel
theorem dX1_beginQuarter_25 : decode cX1_beginQuarter 25 = .ok (.invokestatic 128, 3) := by decide +kernel
theorem dX1_beginQuarter_28 : decode cX1_beginQuarter 28 = .ok (.istore_n 3, 1) := by decide +kernel
theorem dX1_beginQuarter_29 : decode cX1_beginQuarter 29 = .ok (.aload_n 0, 1) := by decide +kernel
theorem dX1_beginQuarter_30 : decode cX1_beginQuarter 30 = .ok (.dup, 1) := by decide +kernel
theorem dX1_beginQuarter_31 : decode cX1_beginQuarter 31 = .ok (.getfield 61, 3) := by decide +kernel
theorem dX1_beginQuarter_34 : decode cX1_beginQuarter 34 = .ok (.aload_n 2, 1) := by decide +kernel
theorem dX1_beginQuarter_35 : decode cX1_beginQuarter 35 = .ok (.getfield 76, 3) := by decide +kernel
theorem dX1_beginQuarter_38 : decode cX1_beginQuarter 38 = .ok (.iload_n 3, 1) := by decide +kernel
theorem dX1_beginQuarter_39 : decode cX1_beginQuarter 39 = .ok (.isub, 1) := by decide +kernel
theorem dX1_beginQuarter_40 : decode cX1_beginQuarter 40 = .ok (.iadd, 1) := by decide +kernel
theorem dX1_beginQuarter_41 : decode cX1_beginQuarter 41 = .ok (.putfield 61, 3) := by decide +kernel
theorem dX1_beginQuarter_44 : decode cX1_beginQuarter 44 = .ok (.aload_n 2, 1) := by decide +kernel
theorem dX1_beginQuarter_45 : decode cX1_beginQuarter 45 = .ok (.iload_n 3, 1) := by decide +kernel
theorem dX1_beginQuarter_46 : decode cX1_beginQuarter 46 = .ok (.aload_n 2, 1) := by decide +kernel
theorem dX1_beginQuarter_47 : decode cX1_beginQuarter 47 = .ok (.getfield 73, 3) := by decide +kernel
theorem dX1_beginQuarter_50 : decode cX1_beginQuarter 50 = .ok (.iadd, 1) := by decide +kernel
theorem dX1_beginQuarter_51 : decode cX1_beginQuarter 51 = .ok (.putfield 76, 3) := by decide +kernel
theorem dX1_beginQuarter_54 : decode cX1_beginQuarter 54 = .ok (.iinc 1 1, 3) := by decide +kernel
theorem dX1_beginQuarter_57 : decode cX1_beginQuarter 57 = .ok (.goto (-55), 3) := by decide +kernel
theorem dX1_beginQuarter_60 : decode cX1_beginQuarter 60 = .ok (.iconst 0, 1) := by decide +kernel
theorem dX1_beginQuarter_61 : decode cX1_beginQuarter 61 = .ok (.istore_n 1, 1) := by decide +kernel
theorem dX1_beginQuarter_62 : decode cX1_beginQuarter 62 = .ok (.iconst 0, 1) := by decide +kernel
theorem dX1_beginQuarter_63 : decode cX1_beginQuarter 63 = .ok (.istore_n 2, 1) := by decide +kernel
theorem dX1_beginQuarter_64 : decode cX1_beginQuarter 64 = .ok (.iload_n 2, 1) := by decide +kernel
theorem dX1_beginQuarter_65 : decode cX1_beginQuarter 65 = .ok (.aload_n 0, 1) := by decide +kernel
theorem dX1_beginQuarter_66 : decode cX1_beginQuarter 66 = .ok (.getfield 52, 3) := by decide +kernel
theorem dX1_beginQuarter_69 : decode cX1_beginQuarter 69 = .ok (.if_icmp .ge 55, 3) := by decide +kernel
theorem dX1_beginQuarter_72 : decode cX1_beginQuarter 72 = .ok (.aload_n 0, 1) := by decide +kernel
theorem dX1_beginQuarter_73 : decode cX1_beginQuarter 73 = .ok (.getfield 27, 3) := by decide +kernel
theorem dX1_beginQuarter_76 : decode cX1_beginQuarter 76 = .ok (.iload_n 2, 1) := by decide +kernel
theorem dX1_beginQuarter_77 : decode cX1_beginQuarter 77 = .ok (.aaload, 1) := by decide +kernel
theorem dX1_beginQuarter_78 : decode cX1_beginQuarter 78 = .ok (.astore_n 3, 1) := by decide +kernel
theorem dX1_beginQuarter_79 : decode cX1_beginQuarter 79 = .ok (.aload_n 3, 1) := by decide +kernel
theorem dX1_beginQuarter_80 : decode cX1_beginQuarter 80 = .ok (.getfield 86, 3) := by decide +kernel
theorem dX1_beginQuarter_83 : decode cX1_beginQuarter 83 = .ok (.iconst 2, 1) := by decide +kernel
theorem dX1_beginQuarter_84 : decode cX1_beginQuarter 84 = .ok (.if_icmp .ne 15, 3) := by decide +kernel
theorem dX1_beginQuarter_87 : decode cX1_beginQuarter 87 = .ok (.aload_n 3, 1) := by decide +kernel
theorem dX1_beginQuarter_88 : decode cX1_beginQuarter 88 = .ok (.getfield 109, 3) := by decide +kernel
theorem dX1_beginQuarter_91 : decode cX1_beginQuarter 91 = .ok (.iconst 1, 1) := by decide +kernel
theorem dX1_beginQuarter_92 : decode cX1_beginQuarter 92 = .ok (.if_icmp .eq 7, 3) := by decide +kernel
theorem dX1_beginQuarter_95 : decode cX1_beginQuarter 95 = .ok (.iconst 1, 1) := by decide +kernel
theorem dX1_beginQuarter_96 : decode cX1_beginQuarter 96 = .ok (.goto 4, 3) := by decide +kernel
theorem dX1_beginQuarter_99 : decode cX1_beginQuarter 99 = .ok (.iconst 0, 1) := by decide +kernel
theorem dX1_beginQuarter_100 : decode cX1_beginQuarter 100 = .ok (.istore 4, 2) := by decide +kernel
theorem dX1_beginQuarter_102 : decode cX1_beginQuarter 102 = .ok (.iload 4, 2) := by decide +kernel
theorem dX1_beginQuarter_104 : decode cX1_beginQuarter 104 = .ok (.ifCond .eq 14, 3) := by decide +kernel
theorem dX1_beginQuarter_107 : decode cX1_beginQuarter 107 = .ok (.aload_n 0, 1) := by decide +kernel
theorem dX1_beginQuarter_108 : decode cX1_beginQuarter 108 = .ok (.iload_n 2, 1) := by decide +kernel
theorem dX1_beginQuarter_109 : decode cX1_beginQuarter 109 = .ok (.invokevirtual 144, 3) := by decide +kernel
theorem dX1_beginQuarter_112 : decode cX1_beginQuarter 112 = .ok (.ifCond .le 6, 3) := by decide +kernel
theorem dX1_beginQuarter_115 : decode cX1_beginQuarter 115 = .ok (.iinc 1 1, 3) := by decide +kernel
theorem dX1_beginQuarter_118 : decode cX1_beginQuarter 118 = .ok (.iinc 2 1, 3) := by decide +kernel
theorem dX1_beginQuarter_121 : decode cX1_beginQuarter 121 = .ok (.goto (-57), 3) := by decide +kernel
theorem dX1_beginQuarter_124 : decode cX1_beginQuarter 124 = .ok (.iload_n 1, 1) := by decide +kernel
theorem dX1_beginQuarter_125 : decode cX1_beginQuarter 125 = .ok (.ireturn, 1) := by decide +kernel
theorem dX1_isReportedBy_0 : decode cX1_isReportedBy 0 = .ok (.aload_n 0, 1) := by decide +kernel
theorem dX1_isReportedBy_1 : decode cX1_isReportedBy 1 = .ok (.getfield 27, 3) := by decide +kernel
theorem dX1_isReportedBy_4 : decode cX1_isReportedBy 4 = .ok (.iload_n 2, 1) := by decide +kernel
theorem dX1_isReportedBy_5 : decode cX1_isReportedBy 5 = .ok (.aaload, 1) := by decide +kernel
theorem dX1_isReportedBy_6 : decode cX1_isReportedBy 6 = .ok (.getfield 115, 3) := by decide +kernel
theorem dX1_isReportedBy_9 : decode cX1_isReportedBy 9 = .ok (.iload_n 1, 1) := by decide +kernel
theorem dX1_isReportedBy_10 : decode cX1_isReportedBy 10 = .ok (.if_icmp .ne 5, 3) := by decide +kernel
theorem dX1_isReportedBy_13 : decode cX1_isReportedBy 13 = .ok (.iconst 1, 1) := by decide +kernel
theorem dX1_isReportedBy_14 : decode cX1_isReportedBy 14 = .ok (.ireturn, 1) := by decide +kernel
theorem dX1_isReportedBy_15 : decode cX1_isReportedBy 15 = .ok (.iconst 0, 1) := by decide +kernel
theorem dX1_isReportedBy_16 : decode cX1_isReportedBy 16 = .ok (.istore_n 3, 1) := by decide +kernel
theorem dX1_isReportedBy_17 : decode cX1_isReportedBy 17 = .ok (.iload_n 3, 1) := by decide +kernel
theorem dX1_isReportedBy_18 : decode cX1_isReportedBy 18 = .ok (.aload_n 0, 1) := by decide +kernel
theorem dX1_isReportedBy_19 : decode cX1_isReportedBy 19 = .ok (.getfield 52, 3) := by decide +kernel
theorem dX1_isReportedBy_22 : decode cX1_isReportedBy 22 = .ok (.if_icmp .ge 37, 3) := by decide +kernel
theorem dX1_isReportedBy_25 : decode cX1_isReportedBy 25 = .ok (.aload_n 0, 1) := by decide +kernel
theorem dX1_isReportedBy_26 : decode cX1_isReportedBy 26 = .ok (.getfield 27, 3) := by decide +kernel
theorem dX1_isReportedBy_29 : decode cX1_isReportedBy 29 = .ok (.iload_n 3, 1) := by decide +kernel
theorem dX1_isReportedBy_30 : decode cX1_isReportedBy 30 = .ok (.aaload, 1) := by decide +kernel
theorem dX1_isReportedBy_31 : decode cX1_isReportedBy 31 = .ok (.getfield 93, 3) := by decide +kernel
theorem dX1_isReportedBy_34 : decode cX1_isReportedBy 34 = .ok (.iload_n 2, 1) := by decide +kernel
theorem dX1_isReportedBy_35 : decode cX1_isReportedBy 35 = .ok (.if_icmp .ne 18, 3) := by decide +kernel
theorem dX1_isReportedBy_38 : decode cX1_isReportedBy 38 = .ok (.aload_n 0, 1) := by decide +kernel
theorem dX1_isReportedBy_39 : decode cX1_isReportedBy 39 = .ok (.getfield 27, 3) := by decide +kernel
theorem dX1_isReportedBy_42 : decode cX1_isReportedBy 42 = .ok (.iload_n 3, 1) := by decide +kernel
theorem dX1_isReportedBy_43 : decode cX1_isReportedBy 43 = .ok (.aaload, 1) := by decide +kernel
theorem dX1_isReportedBy_44 : decode cX1_isReportedBy 44 = .ok (.getfield 115, 3) := by decide +kernel
theorem dX1_isReportedBy_47 : decode cX1_isReportedBy 47 = .ok (.iload_n 1, 1) := by decide +kernel
theorem dX1_isReportedBy_48 : decode cX1_isReportedBy 48 = .ok (.if_icmp .ne 5, 3) := by decide +kernel
theorem dX1_isReportedBy_51 : decode cX1_isReportedBy 51 = .ok (.iconst 1, 1) := by decide +kernel
theorem dX1_isReportedBy_52 : decode cX1_isReportedBy 52 = .ok (.ireturn, 1) := by decide +kernel
theorem dX1_isReportedBy_53 : decode cX1_isReportedBy 53 = .ok (.iinc 3 1, 3) := by decide +kernel
theorem dX1_isReportedBy_56 : decode cX1_isReportedBy 56 = .ok (.goto (-39), 3) := by decide +kernel
theorem dX1_isReportedBy_59 : decode cX1_isReportedBy 59 = .ok (.iconst 0, 1) := by decide +kernel
theorem dX1_isReportedBy_60 : decode cX1_isReportedBy 60 = .ok (.ireturn, 1) := by decide +kernel
theorem dX1_takeRetest_0 : decode cX1_takeRetest 0 = .ok (.aload_n 0, 1) := by decide +kernel
theorem dX1_takeRetest_1 : decode cX1_takeRetest 1 = .ok (.getfield 27, 3) := by decide +kernel
theorem dX1_takeRetest_4 : decode cX1_takeRetest 4 = .ok (.iload_n 2, 1) := by decide +kernel
theorem dX1_takeRetest_5 : decode cX1_takeRetest 5 = .ok (.aaload, 1) := by decide +kernel
theorem dX1_takeRetest_6 : decode cX1_takeRetest 6 = .ok (.astore 4, 2) := by decide +kernel
theorem dX1_takeRetest_8 : decode cX1_takeRetest 8 = .ok (.iload_n 3, 1) := by decide +kernel
theorem dX1_takeRetest_9 : decode cX1_takeRetest 9 = .ok (.ifCond .eq 11, 3) := by decide +kernel
theorem dX1_takeRetest_12 : decode cX1_takeRetest 12 = .ok (.aload 4, 2) := by decide +kernel
theorem dX1_takeRetest_14 : decode cX1_takeRetest 14 = .ok (.getfield 148, 3) := by decide +kernel
theorem dX1_takeRetest_17 : decode cX1_takeRetest 17 = .ok (.goto 8, 3) := by decide +kernel
theorem dX1_takeRetest_20 : decode cX1_takeRetest 20 = .ok (.aload 4, 2) := by decide +kernel
theorem dX1_takeRetest_22 : decode cX1_takeRetest 22 = .ok (.getfield 151, 3) := by decide +kernel
theorem dX1_takeRetest_25 : decode cX1_takeRetest 25 = .ok (.iconst 1, 1) := by decide +kernel
theorem dX1_takeRetest_26 : decode cX1_takeRetest 26 = .ok (.iload_n 1, 1) := by decide +kernel
theorem dX1_takeRetest_27 : decode cX1_takeRetest 27 = .ok (.ishl, 1) := by decide +kernel
theorem dX1_takeRetest_28 : decode cX1_takeRetest 28 = .ok (.ior, 1) := by decide +kernel
theorem dX1_takeRetest_29 : decode cX1_takeRetest 29 = .ok (.istore 5, 2) := by decide +kernel
theorem dX1_takeRetest_31 : decode cX1_takeRetest 31 = .ok (.iload_n 3, 1) := by decide +kernel
theorem dX1_takeRetest_32 : decode cX1_takeRetest 32 = .ok (.ifCond .eq 13, 3) := by decide +kernel
theorem dX1_takeRetest_35 : decode cX1_takeRetest 35 = .ok (.aload 4, 2) := by decide +kernel
theorem dX1_takeRetest_37 : decode cX1_takeRetest 37 = .ok (.iload 5, 2) := by decide +kernel
theorem dX1_takeRetest_39 : decode cX1_takeRetest 39 = .ok (.putfield 148, 3) := by decide +kernel
theorem dX1_takeRetest_42 : decode cX1_takeRetest 42 = .ok (.goto 10, 3) := by decide +kernel
theorem dX1_takeRetest_45 : decode cX1_takeRetest 45 = .ok (.aload 4, 2) := by decide +kernel
theorem dX1_takeRetest_47 : decode cX1_takeRetest 47 = .ok (.iload 5, 2) := by decide +kernel
theorem dX1_takeRetest_49 : decode cX1_takeRetest 49 = .ok (.putfield 151, 3) := by decide +kernel
theorem dX1_takeRetest_52 : decode cX1_takeRetest 52 = .ok (.iload 5, 2) := by decide +kernel
theorem dX1_takeRetest_54 : decode cX1_takeRetest 54 = .ok (.invokestatic 154, 3) := by decide +kernel
theorem dX1_takeRetest_57 : decode cX1_takeRetest 57 = .ok (.iconst 2, 1) := by decide +kernel
theorem dX1_takeRetest_58 : decode cX1_takeRetest 58 = .ok (.if_icmp .ge 5, 3) := by decide +kernel
theorem dX1_takeRetest_61 : decode cX1_takeRetest 61 = .ok (.iconst 0, 1) := by decide +kernel
theorem dX1_takeRetest_62 : decode cX1_takeRetest 62 = .ok (.ireturn, 1) := by decide +kernel
theorem dX1_takeRetest_63 : decode cX1_takeRetest 63 = .ok (.aload_n 0, 1) := by decide +kernel
theorem dX1_takeRetest_64 : decode cX1_takeRetest 64 = .ok (.iload 5, 2) := by decide +kernel
theorem dX1_takeRetest_66 : decode cX1_takeRetest 66 = .ok (.invokevirtual 159, 3) := by decide +kernel
theorem dX1_takeRetest_69 : decode cX1_takeRetest 69 = .ok (.iload_n 3, 1) := by decide +kernel
theorem dX1_takeRetest_70 : decode cX1_takeRetest 70 = .ok (.ifCond .eq 11, 3) := by decide +kernel
theorem dX1_takeRetest_73 : decode cX1_takeRetest 73 = .ok (.aload 4, 2) := by decide +kernel
theorem dX1_takeRetest_75 : decode cX1_takeRetest 75 = .ok (.iconst 1, 1) := by decide +kernel
theorem dX1_takeRetest_76 : decode cX1_takeRetest 76 = .ok (.putfield 163, 3) := by decide +kernel
theorem dX1_takeRetest_79 : decode cX1_takeRetest 79 = .ok (.iconst 1, 1) := by decide +kernel
theorem dX1_takeRetest_80 : decode cX1_takeRetest 80 = .ok (.ireturn, 1) := by decide +kernel
theorem dX1_takeRetest_81 : decode cX1_takeRetest 81 = .ok (.aload 4, 2) := by decide +kernel
theorem dX1_takeRetest_83 : decode cX1_takeRetest 83 = .ok (.invokevirtual 96, 3) := by decide +kernel
theorem dX1_takeRetest_86 : decode cX1_takeRetest 86 = .ok (.aload_n 0, 1) := by decide +kernel
theorem dX1_takeRetest_87 : decode cX1_takeRetest 87 = .ok (.iload_n 2, 1) := by decide +kernel
theorem dX1_takeRetest_88 : decode cX1_takeRetest 88 = .ok (.invokevirtual 167, 3) := by decide +kernel
theorem dX1_takeRetest_91 : decode cX1_takeRetest 91 = .ok (.pop, 1) := by decide +kernel
theorem dX1_takeRetest_92 : decode cX1_takeRetest 92 = .ok (.iconst 2, 1) := by decide +kernel
theorem dX1_takeRetest_93 : decode cX1_takeRetest 93 = .ok (.ireturn, 1) := by decide +kernel
theorem dX1_giveBonuses_0 : decode cX1_giveBonuses 0 = .ok (.iload_n 1, 1) := by decide +kernel
theorem dX1_giveBonuses_1 : decode cX1_giveBonuses 1 = .ok (.invokestatic 154, 3) := by decide +kernel
theorem dX1_giveBonuses_4 : decode cX1_giveBonuses 4 = .ok (.aload_n 0, 1) := by decide +kernel
theorem dX1_giveBonuses_5 : decode cX1_giveBonuses 5 = .ok (.getfield 36, 3) := by decide +kernel
theorem dX1_giveBonuses_8 : decode cX1_giveBonuses 8 = .ok (.imul, 1) := by decide +kernel
theorem dX1_giveBonuses_9 : decode cX1_giveBonuses 9 = .ok (.istore_n 2, 1) := by decide +kernel
theorem dX1_giveBonuses_10 : decode cX1_giveBonuses 10 = .ok (.iload_n 2, 1) := by decide +kernel
theorem dX1_giveBonuses_11 : decode cX1_giveBonuses 11 = .ok (.aload_n 0, 1) := by decide +kernel
theorem dX1_giveBonuses_12 : decode cX1_giveBonuses 12 = .ok (.getfield 61, 3) := by decide +kernel
theorem dX1_giveBonuses_15 : decode cX1_giveBonuses 15 = .ok (.if_icmp .le 4, 3) := by decide +kernel
theorem dX1_giveBonuses_18 : decode cX1_giveBonuses 18 = .ok (.return_, 1) := by decide +kernel
theorem dX1_giveBonuses_19 : decode cX1_giveBonuses 19 = .ok (.aload_n 0, 1) := by decide +kernel
theorem dX1_giveBonuses_20 : decode cX1_giveBonuses 20 = .ok (.dup, 1) := by decide +kernel
theorem dX1_giveBonuses_21 : decode cX1_giveBonuses 21 = .ok (.getfield 61, 3) := by decide +kernel
theorem dX1_giveBonuses_24 : decode cX1_giveBonuses 24 = .ok (.iload_n 2, 1) := by decide +kernel
theorem dX1_giveBonuses_25 : decode cX1_giveBonuses 25 = .ok (.isub, 1) := by decide +kernel
theorem dX1_giveBonuses_26 : decode cX1_giveBonuses 26 = .ok (.putfield 61, 3) := by decide +kernel
theorem dX1_giveBonuses_29 : decode cX1_giveBonuses 29 = .ok (.aload_n 0, 1) := by decide +kernel
theorem dX1_giveBonuses_30 : decode cX1_giveBonuses 30 = .ok (.dup, 1) := by decide +kernel
theorem dX1_giveBonuses_31 : decode cX1_giveBonuses 31 = .ok (.getfield 67, 3) := by decide +kernel
theorem dX1_giveBonuses_34 : decode cX1_giveBonuses 34 = .ok (.iload_n 2, 1) := by decide +kernel
theorem dX1_giveBonuses_35 : decode cX1_giveBonuses 35 = .ok (.iadd, 1) := by decide +kernel
theorem dX1_giveBonuses_36 : decode cX1_giveBonuses 36 = .ok (.putfield 67, 3) := by decide +kernel
theorem dX1_giveBonuses_39 : decode cX1_giveBonuses 39 = .ok (.iconst 0, 1) := by decide +kernel
theorem dX1_giveBonuses_40 : decode cX1_giveBonuses 40 = .ok (.istore_n 3, 1) := by decide +kernel
theorem dX1_giveBonuses_41 : decode cX1_giveBonuses 41 = .ok (.iload_n 3, 1) := by decide +kernel
theorem dX1_giveBonuses_42 : decode cX1_giveBonuses 42 = .ok (.aload_n 0, 1) := by decide +kernel
theorem dX1_giveBonuses_43 : decode cX1_giveBonuses 43 = .ok (.getfield 46, 3) := by decide +kernel
theorem dX1_giveBonuses_46 : decode cX1_giveBonuses 46 = .ok (.if_icmp .ge 50, 3) := by decide +kernel
theorem dX1_giveBonuses_49 : decode cX1_giveBonuses 49 = .ok (.iload_n 1, 1) := by decide +kernel
theorem dX1_giveBonuses_50 : decode cX1_giveBonuses 50 = .ok (.iconst 1, 1) := by decide +kernel
theorem dX1_giveBonuses_51 : decode cX1_giveBonuses 51 = .ok (.iload_n 3, 1) := by decide +kernel
theorem dX1_giveBonuses_52 : decode cX1_giveBonuses 52 = .ok (.ishl, 1) := by decide +kernel
theorem dX1_giveBonuses_53 : decode cX1_giveBonuses 53 = .ok (.iand, 1) := by decide +kernel
theorem dX1_giveBonuses_54 : decode cX1_giveBonuses 54 = .ok (.ifCond .eq 36, 3) := by decide +kernel
theorem dX1_giveBonuses_57 : decode cX1_giveBonuses 57 = .ok (.aload_n 0, 1) := by decide +kernel
theorem dX1_giveBonuses_58 : decode cX1_giveBonuses 58 = .ok (.getfield 20, 3) := by decide +kernel
theorem dX1_giveBonuses_61 : decode cX1_giveBonuses 61 = .ok (.iload_n 3, 1) := by decide +kernel
theorem dX1_giveBonuses_62 : decode cX1_giveBonuses 62 = .ok (.aaload, 1) := by decide +kernel
theorem dX1_giveBonuses_63 : decode cX1_giveBonuses 63 = .ok (.dup, 1) := by decide +kernel
theorem dX1_giveBonuses_64 : decode cX1_giveBonuses 64 = .ok (.getfield 141, 3) := by decide +kernel
theorem dX1_giveBonuses_67 : decode cX1_giveBonuses 67 = .ok (.aload_n 0, 1) := by decide +kernel
theorem dX1_giveBonuses_68 : decode cX1_giveBonuses 68 = .ok (.getfield 36, 3) := by decide +kernel
theorem dX1_giveBonuses_71 : decode cX1_giveBonuses 71 = .ok (.iadd, 1) := by decide +kernel
theorem dX1_giveBonuses_72 : decode cX1_giveBonuses 72 = .ok (.putfield 141, 3) := by decide +kernel
theorem dX1_giveBonuses_75 : decode cX1_giveBonuses 75 = .ok (.aload_n 0, 1) := by decide +kernel
theorem dX1_giveBonuses_76 : decode cX1_giveBonuses 76 = .ok (.getfield 20, 3) := by decide +kernel
theorem dX1_giveBonuses_79 : decode cX1_giveBonuses 79 = .ok (.iload_n 3, 1) := by decide +kernel
theorem dX1_giveBonuses_80 : decode cX1_giveBonuses 80 = .ok (.aaload, 1) := by decide +kernel
theorem dX1_giveBonuses_81 : decode cX1_giveBonuses 81 = .ok (.dup, 1) := by decide +kernel
theorem dX1_giveBonuses_82 : decode cX1_giveBonuses 82 = .ok (.getfield 170, 3) := by decide +kernel
theorem dX1_giveBonuses_85 : decode cX1_giveBonuses 85 = .ok (.iconst 1, 1) := by decide +kernel
theorem dX1_giveBonuses_86 : decode cX1_giveBonuses 86 = .ok (.iadd, 1) := by decide +kernel
theorem dX1_giveBonuses_87 : decode cX1_giveBonuses 87 = .ok (.putfield 170, 3) := by decide +kernel
theorem dX1_giveBonuses_90 : decode cX1_giveBonuses 90 = .ok (.iinc 3 1, 3) := by decide +kernel
theorem dX1_giveBonuses_93 : decode cX1_giveBonuses 93 = .ok (.goto (-52), 3) := by decide +kernel
theorem dX1_giveBonuses_96 : decode cX1_giveBonuses 96 = .ok (.return_, 1) := by decide +kernel
theorem dX1_standingOf_0 : decode cX1_standingOf 0 = .ok (.aload_n 0, 1) := by decide +kernel
theorem dX1_standingOf_1 : decode cX1_standingOf 1 = .ok (.getfield 20, 3) := by decide +kernel
theorem dX1_standingOf_4 : decode cX1_standingOf 4 = .ok (.iload_n 1, 1) := by decide +kernel
theorem dX1_standingOf_5 : decode cX1_standingOf 5 = .ok (.aaload, 1) := by decide +kernel
theorem dX1_standingOf_6 : decode cX1_standingOf 6 = .ok (.astore_n 2, 1) := by decide +kernel
theorem dX1_standingOf_7 : decode cX1_standingOf 7 = .ok (.iconst 2, 1) := by decide +kernel
theorem dX1_standingOf_8 : decode cX1_standingOf 8 = .ok (.aload_n 2, 1) := by decide +kernel
theorem dX1_standingOf_9 : decode cX1_standingOf 9 = .ok (.getfield 118, 3) := by decide +kernel
theorem dX1_standingOf_12 : decode cX1_standingOf 12 = .ok (.imul, 1) := by decide +kernel
theorem dX1_standingOf_13 : decode cX1_standingOf 13 = .ok (.aload_n 2, 1) := by decide +kernel
theorem dX1_standingOf_14 : decode cX1_standingOf 14 = .ok (.getfield 121, 3) := by decide +kernel
theorem dX1_standingOf_17 : decode cX1_standingOf 17 = .ok (.isub, 1) := by decide +kernel
theorem dX1_standingOf_18 : decode cX1_standingOf 18 = .ok (.aload_n 2, 1) := by decide +kernel
theorem dX1_standingOf_19 : decode cX1_standingOf 19 = .ok (.getfield 170, 3) := by decide +kernel
theorem dX1_standingOf_22 : decode cX1_standingOf 22 = .ok (.iadd, 1) := by decide +kernel
theorem dX1_standingOf_23 : decode cX1_standingOf 23 = .ok (.istore_n 3, 1) := by decide +kernel
theorem dX1_standingOf_24 : decode cX1_standingOf 24 = .ok (.iconst 0, 1) := by decide +kernel
theorem dX1_standingOf_25 : decode cX1_standingOf 25 = .ok (.istore 4, 2) := by decide +kernel
theorem dX1_standingOf_27 : decode cX1_standingOf 27 = .ok (.iload 4, 2) := by decide +kernel
theorem dX1_standingOf_29 : decode cX1_standingOf 29 = .ok (.aload_n 0, 1) := by decide +kernel
theorem dX1_standingOf_30 : decode cX1_standingOf 30 = .ok (.getfield 52, 3) := by decide +kernel
theorem dX1_standingOf_33 : decode cX1_standingOf 33 = .ok (.if_icmp .ge 39, 3) := by decide +kernel
theorem dX1_standingOf_36 : decode cX1_standingOf 36 = .ok (.aload_n 0, 1) := by decide +kernel
theorem dX1_standingOf_37 : decode cX1_standingOf 37 = .ok (.getfield 27, 3) := by decide +kernel
theorem dX1_standingOf_40 : decode cX1_standingOf 40 = .ok (.iload 4, 2) := by decide +kernel
theorem dX1_standingOf_42 : decode cX1_standingOf 42 = .ok (.aaload, 1) := by decide +kernel
theorem dX1_standingOf_43 : decode cX1_standingOf 43 = .ok (.getfield 115, 3) := by decide +kernel
theorem dX1_standingOf_46 : decode cX1_standingOf 46 = .ok (.iload_n 1, 1) := by decide +kernel
theorem dX1_standingOf_47 : decode cX1_standingOf 47 = .ok (.if_icmp .ne 19, 3) := by decide +kernel
theorem dX1_standingOf_50 : decode cX1_standingOf 50 = .ok (.iload_n 3, 1) := by decide +kernel
theorem dX1_standingOf_51 : decode cX1_standingOf 51 = .ok (.aload_n 0, 1) := by decide +kernel
theorem dX1_standingOf_52 : decode cX1_standingOf 52 = .ok (.getfield 27, 3) := by decide +kernel
theorem dX1_standingOf_55 : decode cX1_standingOf 55 = .ok (.iload 4, 2) := by decide +kernel
theorem dX1_standingOf_57 : decode cX1_standingOf 57 = .ok (.aaload, 1) := by decide +kernel
theorem dX1_standingOf_58 : decode cX1_standingOf 58 = .ok (.getfield 86, 3) := by decide +kernel
theorem dX1_standingOf_61 : decode cX1_standingOf 61 = .ok (.invokestatic 173, 3) := by decide +kernel
theorem dX1_standingOf_64 : decode cX1_standingOf 64 = .ok (.iadd, 1) := by decide +kernel
theorem dX1_standingOf_65 : decode cX1_standingOf 65 = .ok (.istore_n 3, 1) := by decide +kernel
theorem dX1_standingOf_66 : decode cX1_standingOf 66 = .ok (.iinc 4 1, 3) := by decide +kernel
theorem dX1_standingOf_69 : decode cX1_standingOf 69 = .ok (.goto (-42), 3) := by decide +kernel
theorem dX1_standingOf_72 : decode cX1_standingOf 72 = .ok (.iload_n 3, 1) := by decide +kernel
theorem dX1_standingOf_73 : decode cX1_standingOf 73 = .ok (.ireturn, 1) := by decide +kernel
theorem dX1_standingFor_0 : decode cX1_standingFor 0 = .ok (.iload_n 0, 1) := by decide +kernel
theorem dX1_standingFor_1 : decode cX1_standingFor 1 = .ok (.tableswitch 34 3 5 #[27, 31, 29], 27) := by decide +kernel
theorem dX1_standingFor_28 : decode cX1_standingFor 28 = .ok (.iconst 3, 1) := by decide +kernel
theorem dX1_standingFor_29 : decode cX1_standingFor 29 = .ok (.ireturn, 1) := by decide +kernel
theorem dX1_standingFor_30 : decode cX1_standingFor 30 = .ok (.iconst 1, 1) := by decide +kernel
theorem dX1_standingFor_31 : decode cX1_standingFor 31 = .ok (.ireturn, 1) := by decide +kernel
theorem dX1_standingFor_32 : decode cX1_standingFor 32 = .ok (.bipush (-2), 2) := by decide +kernel
theorem dX1_standingFor_34 : decode cX1_standingFor 34 = .ok (.ireturn, 1) := by decide +kernel
theorem dX1_standingFor_35 : decode cX1_standingFor 35 = .ok (.iconst 0, 1) := by decide +kernel
theorem dX1_standingFor_36 : decode cX1_standingFor 36 = .ok (.ireturn, 1) := by decide +kernel
theorem dX1_reportsInState_0 : decode cX1_reportsInState 0 = .ok (.iconst 0, 1) := by decide +kernel
theorem dX1_reportsInState_1 : decode cX1_reportsInState 1 = .ok (.istore_n 2, 1) := by decide +kernel
theorem dX1_reportsInState_2 : decode cX1_reportsInState 2 = .ok (.iconst 0, 1) := by decide +kernel
theorem dX1_reportsInState_3 : decode cX1_reportsInState 3 = .ok (.istore_n 3, 1) := by decide +kernel
theorem dX1_reportsInState_4 : decode cX1_reportsInState 4 = .ok (.iload_n 3, 1) := by decide +kernel
theorem dX1_reportsInState_5 : decode cX1_reportsInState 5 = .ok (.aload_n 0, 1) := by decide +kernel
theorem dX1_reportsInState_6 : decode cX1_reportsInState 6 = .ok (.getfield 52, 3) := by decide +kernel
theorem dX1_reportsInState_9 : decode cX1_reportsInState 9 = .ok (.if_icmp .ge 25, 3) := by decide +kernel
theorem dX1_reportsInState_12 : decode cX1_reportsInState 12 = .ok (.aload_n 0, 1) := by decide +kernel
theorem dX1_reportsInState_13 : decode cX1_reportsInState 13 = .ok (.getfield 27, 3) := by decide +kernel
theorem dX1_reportsInState_16 : decode cX1_reportsInState 16 = .ok (.iload_n 3, 1) := by decide +kernel
theorem dX1_reportsInState_17 : decode cX1_reportsInState 17 = .ok (.aaload, 1) := by decide +kernel
theorem dX1_reportsInState_18 : decode cX1_reportsInState 18 = .ok (.getfield 86, 3) := by decide +kernel
theorem dX1_reportsInState_21 : decode cX1_reportsInState 21 = .ok (.iload_n 1, 1) := by decide +kernel
theorem dX1_reportsInState_22 : decode cX1_reportsInState 22 = .ok (.if_icmp .ne 6, 3) := by decide +kernel
theorem dX1_reportsInState_25 : decode cX1_reportsInState 25 = .ok (.iinc 2 1, 3) := by decide +kernel
theorem dX1_reportsInState_28 : decode cX1_reportsInState 28 = .ok (.iinc 3 1, 3) := by decide +kernel
theorem dX1_reportsInState_31 : decode cX1_reportsInState 31 = .ok (.goto (-27), 3) := by decide +kernel
theorem dX1_reportsInState_34 : decode cX1_reportsInState 34 = .ok (.iload_n 2, 1) := by decide +kernel
theorem dX1_reportsInState_35 : decode cX1_reportsInState 35 = .ok (.ireturn, 1) := by decide +kernel
theorem dX1_reportsFor_0 : decode cX1_reportsFor 0 = .ok (.iconst 0, 1) := by decide +kernel
theorem dX1_reportsFor_1 : decode cX1_reportsFor 1 = .ok (.istore_n 2, 1) := by decide +kernel
theorem dX1_reportsFor_2 : decode cX1_reportsFor 2 = .ok (.iconst 0, 1) := by decide +kernel
theorem dX1_reportsFor_3 : decode cX1_reportsFor 3 = .ok (.istore_n 3, 1) := by decide +kernel
theorem dX1_reportsFor_4 : decode cX1_reportsFor 4 = .ok (.iload_n 3, 1) := by decide +kernel
theorem dX1_reportsFor_5 : decode cX1_reportsFor 5 = .ok (.aload_n 0, 1) := by decide +kernel
theorem dX1_reportsFor_6 : decode cX1_reportsFor 6 = .ok (.getfield 52, 3) := by decide +kernel
theorem dX1_reportsFor_9 : decode cX1_reportsFor 9 = .ok (.if_icmp .ge 25, 3) := by decide +kernel
theorem dX1_reportsFor_12 : decode cX1_reportsFor 12 = .ok (.aload_n 0, 1) := by decide +kernel
theorem dX1_reportsFor_13 : decode cX1_reportsFor 13 = .ok (.getfield 27, 3) := by decide +kernel
theorem dX1_reportsFor_16 : decode cX1_reportsFor 16 = .ok (.iload_n 3, 1) := by decide +kernel
theorem dX1_reportsFor_17 : decode cX1_reportsFor 17 = .ok (.aaload, 1) := by decide +kernel
theorem dX1_reportsFor_18 : decode cX1_reportsFor 18 = .ok (.getfield 99, 3) := by decide +kernel
theorem dX1_reportsFor_21 : decode cX1_reportsFor 21 = .ok (.iload_n 1, 1) := by decide +kernel
theorem dX1_reportsFor_22 : decode cX1_reportsFor 22 = .ok (.if_icmp .ne 6, 3) := by decide +kernel
theorem dX1_reportsFor_25 : decode cX1_reportsFor 25 = .ok (.iinc 2 1, 3) := by decide +kernel
theorem dX1_reportsFor_28 : decode cX1_reportsFor 28 = .ok (.iinc 3 1, 3) := by decide +kernel
theorem dX1_reportsFor_31 : decode cX1_reportsFor 31 = .ok (.goto (-27), 3) := by decide +kernel
theorem dX1_reportsFor_34 : decode cX1_reportsFor 34 = .ok (.iload_n 2, 1) := by decide +kernel
theorem dX1_reportsFor_35 : decode cX1_reportsFor 35 = .ok (.ireturn, 1) := by decide +kernel
theorem dX1_reportsBy_0 : decode cX1_reportsBy 0 = .ok (.iconst 0, 1) := by decide +kernel
theorem dX1_reportsBy_1 : decode cX1_reportsBy 1 = .ok (.istore_n 2, 1) := by decide +kernel
theorem dX1_reportsBy_2 : decode cX1_reportsBy 2 = .ok (.iconst 0, 1) := by decide +kernel
theorem dX1_reportsBy_3 : decode cX1_reportsBy 3 = .ok (.istore_n 3, 1) := by decide +kernel
theorem dX1_reportsBy_4 : decode cX1_reportsBy 4 = .ok (.iload_n 3, 1) := by decide +kernel
theorem dX1_reportsBy_5 : decode cX1_reportsBy 5 = .ok (.aload_n 0, 1) := by decide +kernel
theorem dX1_reportsBy_6 : decode cX1_reportsBy 6 = .ok (.getfield 52, 3) := by decide +kernel
theorem dX1_reportsBy_9 : decode cX1_reportsBy 9 = .ok (.if_icmp .ge 25, 3) := by decide +kernel
theorem dX1_reportsBy_12 : decode cX1_reportsBy 12 = .ok (.aload_n 0, 1) := by decide +kernel
theorem dX1_reportsBy_13 : decode cX1_reportsBy 13 = .ok (.getfield 27, 3) := by decide +kernel
theorem dX1_reportsBy_16 : decode cX1_reportsBy 16 = .ok (.iload_n 3, 1) := by decide +kernel
theorem dX1_reportsBy_17 : decode cX1_reportsBy 17 = .ok (.aaload, 1) := by decide +kernel
theorem dX1_reportsBy_18 : decode cX1_reportsBy 18 = .ok (.getfield 115, 3) := by decide +kernel
theorem dX1_reportsBy_21 : decode cX1_reportsBy 21 = .ok (.iload_n 1, 1) := by decide +kernel
theorem dX1_reportsBy_22 : decode cX1_reportsBy 22 = .ok (.if_icmp .ne 6, 3) := by decide +kernel
theorem dX1_reportsBy_25 : decode cX1_reportsBy 25 = .ok (.iinc 2 1, 3) := by decide +kernel
theorem dX1_reportsBy_28 : decode cX1_reportsBy 28 = .ok (.iinc 3 1, 3) := by decide +kernel
theorem dX1_reportsBy_31 : decode cX1_reportsBy 31 = .ok (.goto (-27), 3) := by decide +kernel
theorem dX1_reportsBy_34 : decode cX1_reportsBy 34 = .ok (.iload_n 2, 1) := by decide +kernel
theorem dX1_reportsBy_35 : decode cX1_reportsBy 35 = .ok (.ireturn, 1) := by decide +kernel
theorem dX1_foldedReports_0 : decode cX1_foldedReports 0 = .ok (.iconst 0, 1) := by decide +kernel
theorem dX1_foldedReports_1 : decode cX1_foldedReports 1 = .ok (.istore_n 2, 1) := by decide +kernel
theorem dX1_foldedReports_2 : decode cX1_foldedReports 2 = .ok (.iconst 0, 1) := by decide +kernel
theorem dX1_foldedReports_3 : decode cX1_foldedReports 3 = .ok (.istore_n 3, 1) := by decide +kernel
theorem dX1_foldedReports_4 : decode cX1_foldedReports 4 = .ok (.iload_n 3, 1) := by decide +kernel
theorem dX1_foldedReports_5 : decode cX1_foldedReports 5 = .ok (.aload_n 0, 1) := by decide +kernel
theorem dX1_foldedReports_6 : decode cX1_foldedReports 6 = .ok (.getfield 52, 3) := by decide +kernel
theorem dX1_foldedReports_9 : decode cX1_foldedReports 9 = .ok (.if_icmp .ge 25, 3) := by decide +kernel
theorem dX1_foldedReports_12 : decode cX1_foldedReports 12 = .ok (.aload_n 0, 1) := by decide +kernel
theorem dX1_foldedReports_13 : decode cX1_foldedReports 13 = .ok (.getfield 27, 3) := by decide +kernel
theorem dX1_foldedReports_16 : decode cX1_foldedReports 16 = .ok (.iload_n 3, 1) := by decide +kernel
theorem dX1_foldedReports_17 : decode cX1_foldedReports 17 = .ok (.aaload, 1) := by decide +kernel
theorem dX1_foldedReports_18 : decode cX1_foldedReports 18 = .ok (.getfield 93, 3) := by decide +kernel
theorem dX1_foldedReports_21 : decode cX1_foldedReports 21 = .ok (.iload_n 1, 1) := by decide +kernel
theorem dX1_foldedReports_22 : decode cX1_foldedReports 22 = .ok (.if_icmp .ne 6, 3) := by decide +kernel
theorem dX1_foldedReports_25 : decode cX1_foldedReports 25 = .ok (.iinc 2 1, 3) := by decide +kernel
theorem dX1_foldedReports_28 : decode cX1_foldedReports 28 = .ok (.iinc 3 1, 3) := by decide +kernel
theorem dX1_foldedReports_31 : decode cX1_foldedReports 31 = .ok (.goto (-27), 3) := by decide +kernel
theorem dX1_foldedReports_34 : decode cX1_foldedReports 34 = .ok (.iload_n 2, 1) := by decide +kernel
theorem dX1_foldedReports_35 : decode cX1_foldedReports 35 = .ok (.ireturn, 1) := by decide +kernel
theorem dX1_openAppeals_0 : decode cX1_openAppeals 0 = .ok (.iconst 0, 1) := by decide +kernel
theorem dX1_openAppeals_1 : decode cX1_openAppeals 1 = .ok (.istore_n 1, 1) := by decide +kernel
theorem dX1_openAppeals_2 : decode cX1_openAppeals 2 = .ok (.iconst 0, 1) := by decide +kernel
theorem dX1_openAppeals_3 : decode cX1_openAppeals 3 = .ok (.istore_n 2, 1) := by decide +kernel
theorem dX1_openAppeals_4 : decode cX1_openAppeals 4 = .ok (.iload_n 2, 1) := by decide +kernel
theorem dX1_openAppeals_5 : decode cX1_openAppeals 5 = .ok (.aload_n 0, 1) := by decide +kernel
theorem dX1_openAppeals_6 : decode cX1_openAppeals 6 = .ok (.getfield 52, 3) := by decide +kernel
theorem dX1_openAppeals_9 : decode cX1_openAppeals 9 = .ok (.if_icmp .ge 25, 3) := by decide +kernel
theorem dX1_openAppeals_12 : decode cX1_openAppeals 12 = .ok (.aload_n 0, 1) := by decide +kernel
theorem dX1_openAppeals_13 : decode cX1_openAppeals 13 = .ok (.getfield 27, 3) := by decide +kernel
theorem dX1_openAppeals_16 : decode cX1_openAppeals 16 = .ok (.iload_n 2, 1) := by decide +kernel
theorem dX1_openAppeals_17 : decode cX1_openAppeals 17 = .ok (.aaload, 1) := by decide +kernel
theorem dX1_openAppeals_18 : decode cX1_openAppeals 18 = .ok (.getfield 109, 3) := by decide +kernel
theorem dX1_openAppeals_21 : decode cX1_openAppeals 21 = .ok (.iconst 1, 1) := by decide +kernel
theorem dX1_openAppeals_22 : decode cX1_openAppeals 22 = .ok (.if_icmp .ne 6, 3) := by decide +kernel
theorem dX1_openAppeals_25 : decode cX1_openAppeals 25 = .ok (.iinc 1 1, 3) := by decide +kernel
theorem dX1_openAppeals_28 : decode cX1_openAppeals 28 = .ok (.iinc 2 1, 3) := by decide +kernel
theorem dX1_openAppeals_31 : decode cX1_openAppeals 31 = .ok (.goto (-27), 3) := by decide +kernel
theorem dX1_openAppeals_34 : decode cX1_openAppeals 34 = .ok (.iload_n 1, 1) := by decide +kernel
theorem dX1_openAppeals_35 : decode cX1_openAppeals 35 = .ok (.ireturn, 1) := by decide +kernel
theorem dX1_moneyInPools_0 : decode cX1_moneyInPools 0 = .ok (.iconst 0, 1) := by decide +kernel
theorem dX1_moneyInPools_1 : decode cX1_moneyInPools 1 = .ok (.istore_n 1, 1) := by decide +kernel
theorem dX1_moneyInPools_2 : decode cX1_moneyInPools 2 = .ok (.iconst 0, 1) := by decide +kernel
theorem dX1_moneyInPools_3 : decode cX1_moneyInPools 3 = .ok (.istore_n 2, 1) := by decide +kernel
theorem dX1_moneyInPools_4 : decode cX1_moneyInPools 4 = .ok (.iload_n 2, 1) := by decide +kernel
theorem dX1_moneyInPools_5 : decode cX1_moneyInPools 5 = .ok (.aload_n 0, 1) := by decide +kernel
theorem dX1_moneyInPools_6 : decode cX1_moneyInPools 6 = .ok (.getfield 39, 3) := by decide +kernel
theorem dX1_moneyInPools_9 : decode cX1_moneyInPools 9 = .ok (.if_icmp .ge 21, 3) := by decide +kernel
theorem dX1_moneyInPools_12 : decode cX1_moneyInPools 12 = .ok (.iload_n 1, 1) := by decide +kernel
theorem dX1_moneyInPools_13 : decode cX1_moneyInPools 13 = .ok (.aload_n 0, 1) := by decide +kernel
theorem dX1_moneyInPools_14 : decode cX1_moneyInPools 14 = .ok (.getfield 11, 3) := by decide +kernel
theorem dX1_moneyInPools_17 : decode cX1_moneyInPools 17 = .ok (.iload_n 2, 1) := by decide +kernel
theorem dX1_moneyInPools_18 : decode cX1_moneyInPools 18 = .ok (.aaload, 1) := by decide +kernel
theorem dX1_moneyInPools_19 : decode cX1_moneyInPools 19 = .ok (.getfield 76, 3) := by decide +kernel
theorem dX1_moneyInPools_22 : decode cX1_moneyInPools 22 = .ok (.iadd, 1) := by decide +kernel
theorem dX1_moneyInPools_23 : decode cX1_moneyInPools 23 = .ok (.istore_n 1, 1) := by decide +kernel
theorem dX1_moneyInPools_24 : decode cX1_moneyInPools 24 = .ok (.iinc 2 1, 3) := by decide +kernel
theorem dX1_moneyInPools_27 : decode cX1_moneyInPools 27 = .ok (.goto (-23), 3) := by decide +kernel
theorem dX1_moneyInPools_30 : decode cX1_moneyInPools 30 = .ok (.iload_n 1, 1) := by decide +kernel
theorem dX1_moneyInPools_31 : decode cX1_moneyInPools 31 = .ok (.ireturn, 1) := by decide +kernel
theorem dX1_payablePrices_0 : decode cX1_payablePrices 0 = .ok (.iconst 0, 1) := by decide +kernel
theorem dX1_payablePrices_1 : decode cX1_payablePrices 1 = .ok (.istore_n 2, 1) := by decide +kernel
theorem dX1_payablePrices_2 : decode cX1_payablePrices 2 = .ok (.iconst 0, 1) := by decide +kernel
theorem dX1_payablePrices_3 : decode cX1_payablePrices 3 = .ok (.istore_n 3, 1) := by decide +kernel
theorem dX1_payablePrices_4 : decode cX1_payablePrices 4 = .ok (.iload_n 3, 1) := by decide +kernel
theorem dX1_payablePrices_5 : decode cX1_payablePrices 5 = .ok (.aload_n 0, 1) := by decide +kernel
theorem dX1_payablePrices_6 : decode cX1_payablePrices 6 = .ok (.getfield 52, 3) := by decide +kernel
theorem dX1_payablePrices_9 : decode cX1_payablePrices 9 = .ok (.if_icmp .ge 47, 3) := by decide +kernel
theorem dX1_payablePrices_12 : decode cX1_payablePrices 12 = .ok (.aload_n 0, 1) := by decide +kernel
theorem dX1_payablePrices_13 : decode cX1_payablePrices 13 = .ok (.getfield 27, 3) := by decide +kernel
theorem dX1_payablePrices_16 : decode cX1_payablePrices 16 = .ok (.iload_n 3, 1) := by decide +kernel
theorem dX1_payablePrices_17 : decode cX1_payablePrices 17 = .ok (.aaload, 1) := by decide +kernel
theorem dX1_payablePrices_18 : decode cX1_payablePrices 18 = .ok (.getfield 99, 3) := by decide +kernel
theorem dX1_payablePrices_21 : decode cX1_payablePrices 21 = .ok (.iload_n 1, 1) := by decide +kernel
theorem dX1_payablePrices_22 : decode cX1_payablePrices 22 = .ok (.if_icmp .ne 28, 3) := by decide +kernel
theorem dX1_payablePrices_25 : decode cX1_payablePrices 25 = .ok (.aload_n 0, 1) := by decide +kernel
theorem dX1_payablePrices_26 : decode cX1_payablePrices 26 = .ok (.getfield 27, 3) := by decide +kernel
theorem dX1_payablePrices_29 : decode cX1_payablePrices 29 = .ok (.iload_n 3, 1) := by decide +kernel
theorem dX1_payablePrices_30 : decode cX1_payablePrices 30 = .ok (.aaload, 1) := by decide +kernel
theorem dX1_payablePrices_31 : decode cX1_payablePrices 31 = .ok (.invokevirtual 176, 3) := by decide +kernel
theorem dX1_payablePrices_34 : decode cX1_payablePrices 34 = .ok (.ifCond .eq 16, 3) := by decide +kernel
theorem dX1_payablePrices_37 : decode cX1_payablePrices 37 = .ok (.iload_n 2, 1) := by decide +kernel
theorem dX1_payablePrices_38 : decode cX1_payablePrices 38 = .ok (.aload_n 0, 1) := by decide +kernel
theorem dX1_payablePrices_39 : decode cX1_payablePrices 39 = .ok (.aload_n 0, 1) := by decide +kernel
theorem dX1_payablePrices_40 : decode cX1_payablePrices 40 = .ok (.getfield 27, 3) := by decide +kernel
theorem dX1_payablePrices_43 : decode cX1_payablePrices 43 = .ok (.iload_n 3, 1) := by decide +kernel
theorem dX1_payablePrices_44 : decode cX1_payablePrices 44 = .ok (.aaload, 1) := by decide +kernel
theorem dX1_payablePrices_45 : decode cX1_payablePrices 45 = .ok (.invokevirtual 124, 3) := by decide +kernel
theorem dX1_payablePrices_48 : decode cX1_payablePrices 48 = .ok (.iadd, 1) := by decide +kernel
theorem dX1_payablePrices_49 : decode cX1_payablePrices 49 = .ok (.istore_n 2, 1) := by decide +kernel
theorem dX1_payablePrices_50 : decode cX1_payablePrices 50 = .ok (.iinc 3 1, 3) := by decide +kernel
theorem dX1_payablePrices_53 : decode cX1_payablePrices 53 = .ok (.goto (-49), 3) := by decide +kernel
theorem dX1_payablePrices_56 : decode cX1_payablePrices 56 = .ok (.iload_n 2, 1) := by decide +kernel
theorem dX1_payablePrices_57 : decode cX1_payablePrices 57 = .ok (.ireturn, 1) := by decide +kernel
theorem dX2_init_0 : decode cX2_init 0 = .ok (.aload_n 0, 1) := by decide +kernel
theorem dX2_init_1 : decode cX2_init 1 = .ok (.invokespecial 1, 3) := by decide +kernel
theorem dX2_init_4 : decode cX2_init 4 = .ok (.return_, 1) := by decide +kernel
theorem dX2_clear_0 : decode cX2_clear 0 = .ok (.aload_n 0, 1) := by decide +kernel
theorem dX2_clear_1 : decode cX2_clear 1 = .ok (.iconst 0, 1) := by decide +kernel
theorem dX2_clear_2 : decode cX2_clear 2 = .ok (.putfield 7, 3) := by decide +kernel
theorem dX2_clear_5 : decode cX2_clear 5 = .ok (.aload_n 0, 1) := by decide +kernel
theorem dX2_clear_6 : decode cX2_clear 6 = .ok (.iconst 0, 1) := by decide +kernel
theorem dX2_clear_7 : decode cX2_clear 7 = .ok (.putfield 13, 3) := by decide +kernel
theorem dX2_clear_10 : decode cX2_clear 10 = .ok (.aload_n 0, 1) := by decide +kernel
theorem dX2_clear_11 : decode cX2_clear 11 = .ok (.iconst 0, 1) := by decide +kernel
theorem dX2_clear_12 : decode cX2_clear 12 = .ok (.putfield 16, 3) := by decide +kernel
theorem dX2_clear_15 : decode cX2_clear 15 = .ok (.aload_n 0, 1) := by decide +kernel
theorem dX2_clear_16 : decode cX2_clear 16 = .ok (.iconst 0, 1) := by decide +kernel
theorem dX2_clear_17 : decode cX2_clear 17 = .ok (.putfield 19, 3) := by decide +kernel
theorem dX2_clear_20 : decode cX2_clear 20 = .ok (.return_, 1) := by decide +kernel
theorem dX2_copyFrom_0 : decode cX2_copyFrom 0 = .ok (.aload_n 0, 1) := by decide +kernel
theorem dX2_copyFrom_1 : decode cX2_copyFrom 1 = .ok (.aload_n 1, 1) := by decide +kernel
theorem dX2_copyFrom_2 : decode cX2_copyFrom 2 = .ok (.getfield 7, 3) := by decide +kernel
theorem dX2_copyFrom_5 : decode cX2_copyFrom 5 = .ok (.putfield 7, 3) := by decide +kernel
theorem dX2_copyFrom_8 : decode cX2_copyFrom 8 = .ok (.aload_n 0, 1) := by decide +kernel
theorem dX2_copyFrom_9 : decode cX2_copyFrom 9 = .ok (.aload_n 1, 1) := by decide +kernel
theorem dX2_copyFrom_10 : decode cX2_copyFrom 10 = .ok (.getfield 13, 3) := by decide +kernel
theorem dX2_copyFrom_13 : decode cX2_copyFrom 13 = .ok (.putfield 13, 3) := by decide +kernel
theorem dX2_copyFrom_16 : decode cX2_copyFrom 16 = .ok (.aload_n 0, 1) := by decide +kernel
theorem dX2_copyFrom_17 : decode cX2_copyFrom 17 = .ok (.aload_n 1, 1) := by decide +kernel
theorem dX2_copyFrom_18 : decode cX2_copyFrom 18 = .ok (.getfield 16, 3) := by decide +kernel
theorem dX2_copyFrom_21 : decode cX2_copyFrom 21 = .ok (.putfield 16, 3) := by decide +kernel
theorem dX2_copyFrom_24 : decode cX2_copyFrom 24 = .ok (.aload_n 0, 1) := by decide +kernel
theorem dX2_copyFrom_25 : decode cX2_copyFrom 25 = .ok (.aload_n 1, 1) := by decide +kernel
theorem dX2_copyFrom_26 : decode cX2_copyFrom 26 = .ok (.getfield 19, 3) := by decide +kernel
theorem dX2_copyFrom_29 : decode cX2_copyFrom 29 = .ok (.putfield 19, 3) := by decide +kernel
theorem dX2_copyFrom_32 : decode cX2_copyFrom 32 = .ok (.return_, 1) := by decide +kernel
theorem dX3_init_0 : decode cX3_init 0 = .ok (.aload_n 0, 1) := by decide +kernel
theorem dX3_init_1 : decode cX3_init 1 = .ok (.invokespecial 3, 3) := by decide +kernel
theorem dX3_init_4 : decode cX3_init 4 = .ok (.aload_n 0, 1) := by decide +kernel
theorem dX3_init_5 : decode cX3_init 5 = .ok (.sipush (-10009), 3) := by decide +kernel
theorem dX3_init_8 : decode cX3_init 8 = .ok (.putfield 9, 3) := by decide +kernel
theorem dX3_init_11 : decode cX3_init 11 = .ok (.return_, 1) := by decide +kernel
theorem dX3_open_0 : decode cX3_open 0 = .ok (.aload_n 0, 1) := by decide +kernel
theorem dX3_open_1 : decode cX3_open 1 = .ok (.iload_n 1, 1) := by decide +kernel
theorem dX3_open_2 : decode cX3_open 2 = .ok (.putfield 15, 3) := by decide +kernel
theorem dX3_open_5 : decode cX3_open 5 = .ok (.aload_n 0, 1) := by decide +kernel
theorem dX3_open_6 : decode cX3_open 6 = .ok (.iload_n 2, 1) := by decide +kernel
theorem dX3_open_7 : decode cX3_open 7 = .ok (.putfield 18, 3) := by decide +kernel
theorem dX3_open_10 : decode cX3_open 10 = .ok (.aload_n 0, 1) := by decide +kernel
theorem dX3_open_11 : decode cX3_open 11 = .ok (.iload_n 3, 1) := by decide +kernel
theorem dX3_open_12 : decode cX3_open 12 = .ok (.putfield 21, 3) := by decide +kernel
theorem dX3_open_15 : decode cX3_open 15 = .ok (.aload_n 0, 1) := by decide +kernel
theorem dX3_open_16 : decode cX3_open 16 = .ok (.iconst 0, 1) := by decide +kernel
theorem dX3_open_17 : decode cX3_open 17 = .ok (.putfield 24, 3) := by decide +kernel
theorem dX3_open_20 : decode cX3_open 20 = .ok (.aload_n 0, 1) := by decide +kernel
theorem dX3_open_21 : decode cX3_open 21 = .ok (.invokevirtual 27, 3) := by decide +kernel
theorem dX3_open_24 : decode cX3_open 24 = .ok (.return_, 1) := by decide +kernel
theorem dX3_makeNew_0 : decode cX3_makeNew 0 = .ok (.aload_n 0, 1) := by decide +kernel
theorem dX3_makeNew_1 : decode cX3_makeNew 1 = .ok (.iconst 0, 1) := by decide +kernel
theorem dX3_makeNew_2 : decode cX3_makeNew 2 = .ok (.putfield 30, 3) := by decide +kernel
theorem dX3_makeNew_5 : decode cX3_makeNew 5 = .ok (.aload_n 0, 1) := by decide +kernel
theorem dX3_makeNew_6 : decode cX3_makeNew 6 = .ok (.iconst 0, 1) := by decide +kernel
theorem dX3_makeNew_7 : decode cX3_makeNew 7 = .ok (.putfield 33, 3) := by decide +kernel
theorem dX3_makeNew_10 : decode cX3_makeNew 10 = .ok (.aload_n 0, 1) := by decide +kernel
theorem dX3_makeNew_11 : decode cX3_makeNew 11 = .ok (.sipush (-10009), 3) := by decide +kernel
theorem dX3_makeNew_14 : decode cX3_makeNew 14 = .ok (.putfield 9, 3) := by decide +kernel
theorem dX3_makeNew_17 : decode cX3_makeNew 17 = .ok (.aload_n 0, 1) := by decide +kernel
theorem dX3_makeNew_18 : decode cX3_makeNew 18 = .ok (.iconst 0, 1) := by decide +kernel
theorem dX3_makeNew_19 : decode cX3_makeNew 19 = .ok (.putfield 36, 3) := by decide +kernel
theorem dX3_makeNew_22 : decode cX3_makeNew 22 = .ok (.aload_n 0, 1) := by decide +kernel
theorem dX3_makeNew_23 : decode cX3_makeNew 23 = .ok (.iconst 0, 1) := by decide +kernel
theorem dX3_makeNew_24 : decode cX3_makeNew 24 = .ok (.putfield 39, 3) := by decide +kernel
theorem dX3_makeNew_27 : decode cX3_makeNew 27 = .ok (.aload_n 0, 1) := by decide +kernel
theorem dX3_makeNew_28 : decode cX3_makeNew 28 = .ok (.iconst 0, 1) := by decide +kernel
theorem dX3_makeNew_29 : decode cX3_makeNew 29 = .ok (.putfield 42, 3) := by decide +kernel
theorem dX3_makeNew_32 : decode cX3_makeNew 32 = .ok (.aload_n 0, 1) := by decide +kernel
theorem dX3_makeNew_33 : decode cX3_makeNew 33 = .ok (.iconst 0, 1) := by decide +kernel
theorem dX3_makeNew_34 : decode cX3_makeNew 34 = .ok (.putfield 45, 3) := by decide +kernel
theorem dX3_makeNew_37 : decode cX3_makeNew 37 = .ok (.aload_n 0, 1) := by decide +kernel
theorem dX3_makeNew_38 : decode cX3_makeNew 38 = .ok (.iconst 0, 1) := by decide +kernel
theorem dX3_makeNew_39 : decode cX3_makeNew 39 = .ok (.putfield 48, 3) := by decide +kernel
theorem dX3_makeNew_42 : decode cX3_makeNew 42 = .ok (.return_, 1) := by decide +kernel
theorem dX3_isPayable_0 : decode cX3_isPayable 0 = .ok (.aload_n 0, 1) := by decide +kernel
theorem dX3_isPayable_1 : decode cX3_isPayable 1 = .ok (.getfield 30, 3) := by decide +kernel
theorem dX3_isPayable_4 : decode cX3_isPayable 4 = .ok (.iconst 1, 1) := by decide +kernel
theorem dX3_isPayable_5 : decode cX3_isPayable 5 = .ok (.if_icmp .eq 11, 3) := by decide +kernel
theorem dX3_isPayable_8 : decode cX3_isPayable 8 = .ok (.aload_n 0, 1) := by decide +kernel
theorem dX3_isPayable_9 : decode cX3_isPayable 9 = .ok (.getfield 30, 3) := by decide +kernel
theorem dX3_isPayable_12 : decode cX3_isPayable 12 = .ok (.iconst 2, 1) := by decide +kernel
theorem dX3_isPayable_13 : decode cX3_isPayable 13 = .ok (.if_icmp .ne 7, 3) := by decide +kernel
theorem dX3_isPayable_16 : decode cX3_isPayable 16 = .ok (.iconst 1, 1) := by decide +kernel
theorem dX3_isPayable_17 : decode cX3_isPayable 17 = .ok (.goto 4, 3) := by decide +kernel
theorem dX3_isPayable_20 : decode cX3_isPayable 20 = .ok (.iconst 0, 1) := by decide +kernel
theorem dX3_isPayable_21 : decode cX3_isPayable 21 = .ok (.ireturn, 1) := by decide +kernel
theorem dX3_hasSeverity_0 : decode cX3_hasSeverity 0 = .ok (.aload_n 0, 1) := by decide +kernel
theorem dX3_hasSeverity_1 : decode cX3_hasSeverity 1 = .ok (.invokevirtual 52, 3) := by decide +kernel
theorem dX3_hasSeverity_4 : decode cX3_hasSeverity 4 = .ok (.ifCond .ne 11, 3) := by decide +kernel
theorem dX3_hasSeverity_7 : decode cX3_hasSeverity 7 = .ok (.aload_n 0, 1) := by decide +kernel
theorem dX3_hasSeverity_8 : decode cX3_hasSeverity 8 = .ok (.getfield 30, 3) := by decide +kernel
theorem dX3_hasSeverity_11 : decode cX3_hasSeverity 11 = .ok (.iconst 3, 1) := by decide +kernel
theorem dX3_hasSeverity_12 : decode cX3_hasSeverity 12 = .ok (.if_icmp .ne 7, 3) := by decide +kernel
theorem dX3_hasSeverity_15 : decode cX3_hasSeverity 15 = .ok (.iconst 1, 1) := by decide +kernel
theorem dX3_hasSeverity_16 : decode cX3_hasSeverity 16 = .ok (.goto 4, 3) := by decide +kernel
theorem dX3_hasSeverity_19 : decode cX3_hasSeverity 19 = .ok (.iconst 0, 1) := by decide +kernel
theorem dX3_hasSeverity_20 : decode cX3_hasSeverity 20 = .ok (.ireturn, 1) := by decide +kernel
theorem dX3_isRetestedBy_0 : decode cX3_isRetestedBy 0 = .ok (.aload_n 0, 1) := by decide +kernel
theorem dX3_isRetestedBy_1 : decode cX3_isRetestedBy 1 = .ok (.getfield 42, 3) := by decide +kernel
theorem dX3_isRetestedBy_4 : decode cX3_isRetestedBy 4 = .ok (.aload_n 0, 1) := by decide +kernel
theorem dX3_isRetestedBy_5 : decode cX3_isRetestedBy 5 = .ok (.getfield 45, 3) := by decide +kernel
theorem dX3_isRetestedBy_8 : decode cX3_isRetestedBy 8 = .ok (.ior, 1) := by decide +kernel
theorem dX3_isRetestedBy_9 : decode cX3_isRetestedBy 9 = .ok (.iconst 1, 1) := by decide +kernel
theorem dX3_isRetestedBy_10 : decode cX3_isRetestedBy 10 = .ok (.iload_n 1, 1) := by decide +kernel
theorem dX3_isRetestedBy_11 : decode cX3_isRetestedBy 11 = .ok (.ishl, 1) := by decide +kernel
theorem dX3_isRetestedBy_12 : decode cX3_isRetestedBy 12 = .ok (.iand, 1) := by decide +kernel
theorem dX3_isRetestedBy_13 : decode cX3_isRetestedBy 13 = .ok (.ifCond .eq 7, 3) := by decide +kernel
theorem dX3_isRetestedBy_16 : decode cX3_isRetestedBy 16 = .ok (.iconst 1, 1) := by decide +kernel
theorem dX3_isRetestedBy_17 : decode cX3_isRetestedBy 17 = .ok (.goto 4, 3) := by decide +kernel
theorem dX3_isRetestedBy_20 : decode cX3_isRetestedBy 20 = .ok (.iconst 0, 1) := by decide +kernel
theorem dX3_isRetestedBy_21 : decode cX3_isRetestedBy 21 = .ok (.ireturn, 1) := by decide +kernel
theorem dX3_tellsSameAs_0 : decode cX3_tellsSameAs 0 = .ok (.aload_n 0, 1) := by decide +kernel
theorem dX3_tellsSameAs_1 : decode cX3_tellsSameAs 1 = .ok (.getfield 18, 3) := by decide +kernel
theorem dX3_tellsSameAs_4 : decode cX3_tellsSameAs 4 = .ok (.aload_n 1, 1) := by decide +kernel
theorem dX3_tellsSameAs_5 : decode cX3_tellsSameAs 5 = .ok (.getfield 18, 3) := by decide +kernel
theorem dX3_tellsSameAs_8 : decode cX3_tellsSameAs 8 = .ok (.if_icmp .ne 18, 3) := by decide +kernel
theorem dX3_tellsSameAs_11 : decode cX3_tellsSameAs 11 = .ok (.aload_n 0, 1) := by decide +kernel
theorem dX3_tellsSameAs_12 : decode cX3_tellsSameAs 12 = .ok (.getfield 21, 3) := by decide +kernel
theorem dX3_tellsSameAs_15 : decode cX3_tellsSameAs 15 = .ok (.aload_n 1, 1) := by decide +kernel
theorem dX3_tellsSameAs_16 : decode cX3_tellsSameAs 16 = .ok (.getfield 21, 3) := by decide +kernel
theorem dX3_tellsSameAs_19 : decode cX3_tellsSameAs 19 = .ok (.if_icmp .ne 7, 3) := by decide +kernel
theorem dX3_tellsSameAs_22 : decode cX3_tellsSameAs 22 = .ok (.iconst 1, 1) := by decide +kernel
theorem dX3_tellsSameAs_23 : decode cX3_tellsSameAs 23 = .ok (.goto 4, 3) := by decide +kernel
theorem dX3_tellsSameAs_26 : decode cX3_tellsSameAs 26 = .ok (.iconst 0, 1) := by decide +kernel
theorem dX3_tellsSameAs_27 : decode cX3_tellsSameAs 27 = .ok (.ireturn, 1) := by decide +kernel
theorem dX3_copyFrom_0 : decode cX3_copyFrom 0 = .ok (.aload_n 0, 1) := by decide +kernel
theorem dX3_copyFrom_1 : decode cX3_copyFrom 1 = .ok (.aload_n 1, 1) := by decide +kernel
theorem dX3_copyFrom_2 : decode cX3_copyFrom 2 = .ok (.getfield 15, 3) := by decide +kernel
theorem dX3_copyFrom_5 : decode cX3_copyFrom 5 = .ok (.putfield 15, 3) := by decide +kernel
theorem dX3_copyFrom_8 : decode cX3_copyFrom 8 = .ok (.aload_n 0, 1) := by decide +kernel
theorem dX3_copyFrom_9 : decode cX3_copyFrom 9 = .ok (.aload_n 1, 1) := by decide +kernel
theorem dX3_copyFrom_10 : decode cX3_copyFrom 10 = .ok (.getfield 18, 3) := by decide +kernel
theorem dX3_copyFrom_13 : decode cX3_copyFrom 13 = .ok (.putfield 18, 3) := by decide +kernel
theorem dX3_copyFrom_16 : decode cX3_copyFrom 16 = .ok (.aload_n 0, 1) := by decide +kernel
theorem dX3_copyFrom_17 : decode cX3_copyFrom 17 = .ok (.aload_n 1, 1) := by decide +kernel
theorem dX3_copyFrom_18 : decode cX3_copyFrom 18 = .ok (.getfield 21, 3) := by decide +kernel
theorem dX3_copyFrom_21 : decode cX3_copyFrom 21 = .ok (.putfield 21, 3) := by decide +kernel
theorem dX3_copyFrom_24 : decode cX3_copyFrom 24 = .ok (.aload_n 0, 1) := by decide +kernel
theorem dX3_copyFrom_25 : decode cX3_copyFrom 25 = .ok (.aload_n 1, 1) := by decide +kernel
theorem dX3_copyFrom_26 : decode cX3_copyFrom 26 = .ok (.getfield 30, 3) := by decide +kernel
theorem dX3_copyFrom_29 : decode cX3_copyFrom 29 = .ok (.putfield 30, 3) := by decide +kernel
theorem dX3_copyFrom_32 : decode cX3_copyFrom 32 = .ok (.aload_n 0, 1) := by decide +kernel
theorem dX3_copyFrom_33 : decode cX3_copyFrom 33 = .ok (.aload_n 1, 1) := by decide +kernel
theorem dX3_copyFrom_34 : decode cX3_copyFrom 34 = .ok (.getfield 33, 3) := by decide +kernel
theorem dX3_copyFrom_37 : decode cX3_copyFrom 37 = .ok (.putfield 33, 3) := by decide +kernel
theorem dX3_copyFrom_40 : decode cX3_copyFrom 40 = .ok (.aload_n 0, 1) := by decide +kernel
theorem dX3_copyFrom_41 : decode cX3_copyFrom 41 = .ok (.aload_n 1, 1) := by decide +kernel
theorem dX3_copyFrom_42 : decode cX3_copyFrom 42 = .ok (.getfield 9, 3) := by decide +kernel
theorem dX3_copyFrom_45 : decode cX3_copyFrom 45 = .ok (.putfield 9, 3) := by decide +kernel
theorem dX3_copyFrom_48 : decode cX3_copyFrom 48 = .ok (.aload_n 0, 1) := by decide +kernel
theorem dX3_copyFrom_49 : decode cX3_copyFrom 49 = .ok (.aload_n 1, 1) := by decide +kernel
theorem dX3_copyFrom_50 : decode cX3_copyFrom 50 = .ok (.getfield 36, 3) := by decide +kernel
theorem dX3_copyFrom_53 : decode cX3_copyFrom 53 = .ok (.putfield 36, 3) := by decide +kernel
theorem dX3_copyFrom_56 : decode cX3_copyFrom 56 = .ok (.aload_n 0, 1) := by decide +kernel
theorem dX3_copyFrom_57 : decode cX3_copyFrom 57 = .ok (.aload_n 1, 1) := by decide +kernel
theorem dX3_copyFrom_58 : decode cX3_copyFrom 58 = .ok (.getfield 39, 3) := by decide +kernel
theorem dX3_copyFrom_61 : decode cX3_copyFrom 61 = .ok (.putfield 39, 3) := by decide +kernel
theorem dX3_copyFrom_64 : decode cX3_copyFrom 64 = .ok (.aload_n 0, 1) := by decide +kernel
theorem dX3_copyFrom_65 : decode cX3_copyFrom 65 = .ok (.aload_n 1, 1) := by decide +kernel
theorem dX3_copyFrom_66 : decode cX3_copyFrom 66 = .ok (.getfield 24, 3) := by decide +kernel
theorem dX3_copyFrom_69 : decode cX3_copyFrom 69 = .ok (.putfield 24, 3) := by decide +kernel
theorem dX3_copyFrom_72 : decode cX3_copyFrom 72 = .ok (.aload_n 0, 1) := by decide +kernel
theorem dX3_copyFrom_73 : decode cX3_copyFrom 73 = .ok (.aload_n 1, 1) := by decide +kernel
theorem dX3_copyFrom_74 : decode cX3_copyFrom 74 = .ok (.getfield 42, 3) := by decide +kernel
theorem dX3_copyFrom_77 : decode cX3_copyFrom 77 = .ok (.putfield 42, 3) := by decide +kernel
theorem dX3_copyFrom_80 : decode cX3_copyFrom 80 = .ok (.aload_n 0, 1) := by decide +kernel
theorem dX3_copyFrom_81 : decode cX3_copyFrom 81 = .ok (.aload_n 1, 1) := by decide +kernel
theorem dX3_copyFrom_82 : decode cX3_copyFrom 82 = .ok (.getfield 45, 3) := by decide +kernel
theorem dX3_copyFrom_85 : decode cX3_copyFrom 85 = .ok (.putfield 45, 3) := by decide +kernel
theorem dX3_copyFrom_88 : decode cX3_copyFrom 88 = .ok (.aload_n 0, 1) := by decide +kernel
theorem dX3_copyFrom_89 : decode cX3_copyFrom 89 = .ok (.aload_n 1, 1) := by decide +kernel
theorem dX3_copyFrom_90 : decode cX3_copyFrom 90 = .ok (.getfield 48, 3) := by decide +kernel
theorem dX3_copyFrom_93 : decode cX3_copyFrom 93 = .ok (.putfield 48, 3) := by decide +kernel
theorem dX3_copyFrom_96 : decode cX3_copyFrom 96 = .ok (.return_, 1) := by decide +kernel
theorem dX4_init_0 : decode cX4_init 0 = .ok (.aload_n 0, 1) := by decide +kernel
theorem dX4_init_1 : decode cX4_init 1 = .ok (.invokespecial 1, 3) := by decide +kernel
theorem dX4_init_4 : decode cX4_init 4 = .ok (.aload_n 0, 1) := by decide +kernel
theorem dX4_init_5 : decode cX4_init 5 = .ok (.new 7, 3) := by decide +kernel
theorem dX4_init_8 : decode cX4_init 8 = .ok (.dup, 1) := by decide +kernel
theorem dX4_init_9 : decode cX4_init 9 = .ok (.invokespecial 9, 3) := by decide +kernel
theorem dX4_init_12 : decode cX4_init 12 = .ok (.putfield 10, 3) := by decide +kernel
theorem dX4_init_15 : decode cX4_init 15 = .ok (.aload_n 0, 1) := by decide +kernel
theorem dX4_init_16 : decode cX4_init 16 = .ok (.new 7, 3) := by decide +kernel
theorem dX4_init_19 : decode cX4_init 19 = .ok (.dup, 1) := by decide +kernel
theorem dX4_init_20 : decode cX4_init 20 = .ok (.invokespecial 9, 3) := by decide +kernel
theorem dX4_init_23 : decode cX4_init 23 = .ok (.putfield 16, 3) := by decide +kernel
theorem dX4_init_26 : decode cX4_init 26 = .ok (.aload_n 0, 1) := by decide +kernel
theorem dX4_init_27 : decode cX4_init 27 = .ok (.bipush 8, 2) := by decide +kernel
theorem dX4_init_29 : decode cX4_init 29 = .ok (.anewarray 7, 3) := by decide +kernel
theorem dX4_init_32 : decode cX4_init 32 = .ok (.putfield 19, 3) := by decide +kernel
theorem dX4_init_35 : decode cX4_init 35 = .ok (.iconst 0, 1) := by decide +kernel
theorem dX4_init_36 : decode cX4_init 36 = .ok (.istore_n 1, 1) := by decide +kernel
theorem dX4_init_37 : decode cX4_init 37 = .ok (.iload_n 1, 1) := by decide +kernel
theorem dX4_init_38 : decode cX4_init 38 = .ok (.bipush 8, 2) := by decide +kernel
theorem dX4_init_40 : decode cX4_init 40 = .ok (.if_icmp .ge 22, 3) := by decide +kernel
theorem dX4_init_43 : decode cX4_init 43 = .ok (.aload_n 0, 1) := by decide +kernel
theorem dX4_init_44 : decode cX4_init 44 = .ok (.getfield 19, 3) := by decide +kernel
theorem dX4_init_47 : decode cX4_init 47 = .ok (.iload_n 1, 1) := by decide +kernel
theorem dX4_init_48 : decode cX4_init 48 = .ok (.new 7, 3) := by decide +kernel
theorem dX4_init_51 : decode cX4_init 51 = .ok (.dup, 1) := by decide +kernel
theorem dX4_init_52 : decode cX4_init 52 = .ok (.invokespecial 9, 3) := by decide +kernel
theorem dX4_init_55 : decode cX4_init 55 = .ok (.aastore, 1) := by decide +kernel
theorem dX4_init_56 : decode cX4_init 56 = .ok (.iinc 1 1, 3) := by decide +kernel
theorem dX4_init_59 : decode cX4_init 59 = .ok (.goto (-22), 3) := by decide +kernel
theorem dX4_init_62 : decode cX4_init 62 = .ok (.aload_n 0, 1) := by decide +kernel
theorem dX4_init_63 : decode cX4_init 63 = .ok (.bipush 8, 2) := by decide +kernel
theorem dX4_init_65 : decode cX4_init 65 = .ok (.newarray .int, 2) := by decide +kernel
theorem dX4_init_67 : decode cX4_init 67 = .ok (.putfield 23, 3) := by decide +kernel
theorem dX4_init_70 : decode cX4_init 70 = .ok (.aload_n 0, 1) := by decide +kernel
theorem dX4_init_71 : decode cX4_init 71 = .ok (.iconst 0, 1) := by decide +kernel
theorem dX4_init_72 : decode cX4_init 72 = .ok (.putfield 27, 3) := by decide +kernel
theorem dX4_init_75 : decode cX4_init 75 = .ok (.aload_n 0, 1) := by decide +kernel
theorem dX4_init_76 : decode cX4_init 76 = .ok (.iconst 0, 1) := by decide +kernel
theorem dX4_init_77 : decode cX4_init 77 = .ok (.putfield 31, 3) := by decide +kernel
theorem dX4_init_80 : decode cX4_init 80 = .ok (.return_, 1) := by decide +kernel
theorem dX4_addAsset_0 : decode cX4_addAsset 0 = .ok (.iload_n 1, 1) := by decide +kernel
theorem dX4_addAsset_1 : decode cX4_addAsset 1 = .ok (.iconst 1, 1) := by decide +kernel
theorem dX4_addAsset_2 : decode cX4_addAsset 2 = .ok (.bipush 9, 2) := by decide +kernel
theorem dX4_addAsset_4 : decode cX4_addAsset 4 = .ok (.invokestatic 34, 3) := by decide +kernel
theorem dX4_addAsset_7 : decode cX4_addAsset 7 = .ok (.ifCond .ne 14, 3) := by decide +kernel
theorem dX4_addAsset_10 : decode cX4_addAsset 10 = .ok (.iload_n 2, 1) := by decide +kernel
theorem dX4_addAsset_11 : decode cX4_addAsset 11 = .ok (.iconst 0, 1) := by decide +kernel
theorem dX4_addAsset_12 : decode cX4_addAsset 12 = .ok (.sipush 10000, 3) := by decide +kernel
theorem dX4_addAsset_15 : decode cX4_addAsset 15 = .ok (.invokestatic 34, 3) := by decide +kernel
theorem dX4_addAsset_18 : decode cX4_addAsset 18 = .ok (.ifCond .eq 7, 3) := by decide +kernel
theorem dX4_addAsset_21 : decode cX4_addAsset 21 = .ok (.sipush (-10001), 3) := by decide +kernel
theorem dX4_addAsset_24 : decode cX4_addAsset 24 = .ok (.ireturn, 1) := by decide +kernel
theorem dX4_addAsset_25 : decode cX4_addAsset 25 = .ok (.aload_n 0, 1) := by decide +kernel
theorem dX4_addAsset_26 : decode cX4_addAsset 26 = .ok (.getfield 10, 3) := by decide +kernel
theorem dX4_addAsset_29 : decode cX4_addAsset 29 = .ok (.getfield 38, 3) := by decide +kernel
theorem dX4_addAsset_32 : decode cX4_addAsset 32 = .ok (.bipush 6, 2) := by decide +kernel
theorem dX4_addAsset_34 : decode cX4_addAsset 34 = .ok (.if_icmp .lt 7, 3) := by decide +kernel
theorem dX4_addAsset_37 : decode cX4_addAsset 37 = .ok (.sipush (-10003), 3) := by decide +kernel
theorem dX4_addAsset_40 : decode cX4_addAsset 40 = .ok (.ireturn, 1) := by decide +kernel
theorem dX4_addAsset_41 : decode cX4_addAsset 41 = .ok (.aload_n 0, 1) := by decide +kernel
theorem dX4_addAsset_42 : decode cX4_addAsset 42 = .ok (.invokevirtual 41, 3) := by decide +kernel
theorem dX4_addAsset_45 : decode cX4_addAsset 45 = .ok (.aload_n 0, 1) := by decide +kernel
theorem dX4_addAsset_46 : decode cX4_addAsset 46 = .ok (.getfield 10, 3) := by decide +kernel
theorem dX4_addAsset_49 : decode cX4_addAsset 49 = .ok (.iload_n 1, 1) := by decide +kernel
theorem dX4_addAsset_50 : decode cX4_addAsset 50 = .ok (.iload_n 2, 1) := by decide +kernel
theorem dX4_addAsset_51 : decode cX4_addAsset 51 = .ok (.invokevirtual 44, 3) := by decide +kernel
theorem dX4_addAsset_54 : decode cX4_addAsset 54 = .ok (.ireturn, 1) := by decide +kernel
theorem dX4_addHunter_0 : decode cX4_addHunter 0 = .ok (.aload_n 0, 1) := by decide +kernel
theorem dX4_addHunter_1 : decode cX4_addHunter 1 = .ok (.getfield 10, 3) := by decide +kernel
theorem dX4_addHunter_4 : decode cX4_addHunter 4 = .ok (.getfield 48, 3) := by decide +kernel
theorem dX4_addHunter_7 : decode cX4_addHunter 7 = .ok (.bipush 8, 2) := by decide +kernel
theorem dX4_addHunter_9 : decode cX4_addHunter 9 = .ok (.if_icmp .lt 7, 3) := by decide +kernel
theorem dX4_addHunter_12 : decode cX4_addHunter 12 = .ok (.sipush (-10003), 3) := by decide +kernel
theorem dX4_addHunter_15 : decode cX4_addHunter 15 = .ok (.ireturn, 1) := by decide +kernel
theorem dX4_addHunter_16 : decode cX4_addHunter 16 = .ok (.aload_n 0, 1) := by decide +kernel
theorem dX4_addHunter_17 : decode cX4_addHunter 17 = .ok (.invokevirtual 41, 3) := by decide +kernel
theorem dX4_addHunter_20 : decode cX4_addHunter 20 = .ok (.aload_n 0, 1) := by decide +kernel
theorem dX4_addHunter_21 : decode cX4_addHunter 21 = .ok (.getfield 10, 3) := by decide +kernel
theorem dX4_addHunter_24 : decode cX4_addHunter 24 = .ok (.invokevirtual 51, 3) := by decide +kernel
theorem dX4_addHunter_27 : decode cX4_addHunter 27 = .ok (.ireturn, 1) := by decide +kernel
theorem dX4_fill_0 : decode cX4_fill 0 = .ok (.iload_n 1, 1) := by decide +kernel
theorem dX4_fill_1 : decode cX4_fill 1 = .ok (.iconst 1, 1) := by decide +kernel
theorem dX4_fill_2 : decode cX4_fill 2 = .ok (.ldc 55, 2) := by decide +kernel
theorem dX4_fill_4 : decode cX4_fill 4 = .ok (.invokestatic 34, 3) := by decide +kernel
theorem dX4_fill_7 : decode cX4_fill 7 = .ok (.ifCond .eq 7, 3) := by decide +kernel
theorem dX4_fill_10 : decode cX4_fill 10 = .ok (.sipush (-10001), 3) := by decide +kernel
theorem dX4_fill_13 : decode cX4_fill 13 = .ok (.ireturn, 1) := by decide +kernel
theorem dX4_fill_14 : decode cX4_fill 14 = .ok (.aload_n 0, 1) := by decide +kernel
theorem dX4_fill_15 : decode cX4_fill 15 = .ok (.getfield 10, 3) := by decide +kernel
theorem dX4_fill_18 : decode cX4_fill 18 = .ok (.getfield 56, 3) := by decide +kernel
theorem dX4_fill_21 : decode cX4_fill 21 = .ok (.iload_n 1, 1) := by decide +kernel
theorem dX4_fill_22 : decode cX4_fill 22 = .ok (.iadd, 1) := by decide +kernel
theorem dX4_fill_23 : decode cX4_fill 23 = .ok (.ldc 59, 2) := by decide +kernel
theorem dX4_fill_25 : decode cX4_fill 25 = .ok (.if_icmp .le 7, 3) := by decide +kernel
theorem dX4_fill_28 : decode cX4_fill 28 = .ok (.sipush (-10002), 3) := by decide +kernel
theorem dX4_fill_31 : decode cX4_fill 31 = .ok (.ireturn, 1) := by decide +kernel
theorem dX4_fill_32 : decode cX4_fill 32 = .ok (.aload_n 0, 1) := by decide +kernel
theorem dX4_fill_33 : decode cX4_fill 33 = .ok (.invokevirtual 41, 3) := by decide +kernel
theorem dX4_fill_36 : decode cX4_fill 36 = .ok (.aload_n 0, 1) := by decide +kernel
theorem dX4_fill_37 : decode cX4_fill 37 = .ok (.getfield 10, 3) := by decide +kernel
theorem dX4_fill_40 : decode cX4_fill 40 = .ok (.dup, 1) := by decide +kernel
theorem dX4_fill_41 : decode cX4_fill 41 = .ok (.getfield 56, 3) := by decide +kernel
theorem dX4_fill_44 : decode cX4_fill 44 = .ok (.iload_n 1, 1) := by decide +kernel
theorem dX4_fill_45 : decode cX4_fill 45 = .ok (.iadd, 1) := by decide +kernel
theorem dX4_fill_46 : decode cX4_fill 46 = .ok (.putfield 56, 3) := by decide +kernel
theorem dX4_fill_49 : decode cX4_fill 49 = .ok (.aload_n 0, 1) := by decide +kernel
theorem dX4_fill_50 : decode cX4_fill 50 = .ok (.getfield 10, 3) := by decide +kernel
theorem dX4_fill_53 : decode cX4_fill 53 = .ok (.getfield 56, 3) := by decide +kernel
theorem dX4_fill_56 : decode cX4_fill 56 = .ok (.ireturn, 1) := by decide +kernel
theorem dX4_setRate_0 : decode cX4_setRate 0 = .ok (.iload_n 1, 1) := by decide +kernel
theorem dX4_setRate_1 : decode cX4_setRate 1 = .ok (.bipush 50, 2) := by decide +kernel
theorem dX4_setRate_3 : decode cX4_setRate 3 = .ok (.sipush 200, 3) := by decide +kernel
theorem dX4_setRate_6 : decode cX4_setRate 6 = .ok (.invokestatic 34, 3) := by decide +kernel
theorem dX4_setRate_9 : decode cX4_setRate 9 = .ok (.ifCond .eq 7, 3) := by decide +kernel
theorem dX4_setRate_12 : decode cX4_setRate 12 = .ok (.sipush (-10001), 3) := by decide +kernel
theorem dX4_setRate_15 : decode cX4_setRate 15 = .ok (.ireturn, 1) := by decide +kernel
theorem dX4_setRate_16 : decode cX4_setRate 16 = .ok (.aload_n 0, 1) := by decide +kernel
theorem dX4_setRate_17 : decode cX4_setRate 17 = .ok (.invokevirtual 41, 3) := by decide +kernel
theorem dX4_setRate_20 : decode cX4_setRate 20 = .ok (.aload_n 0, 1) := by decide +kernel
theorem dX4_setRate_21 : decode cX4_setRate 21 = .ok (.getfield 10, 3) := by decide +kernel
theorem dX4_setRate_24 : decode cX4_setRate 24 = .ok (.getfield 60, 3) := by decide +kernel
theorem dX4_setRate_27 : decode cX4_setRate 27 = .ok (.istore_n 2, 1) := by decide +kernel
theorem dX4_setRate_28 : decode cX4_setRate 28 = .ok (.aload_n 0, 1) := by decide +kernel
theorem dX4_setRate_29 : decode cX4_setRate 29 = .ok (.getfield 10, 3) := by decide +kernel
theorem dX4_setRate_32 : decode cX4_setRate 32 = .ok (.iload_n 1, 1) := by decide +kernel
theorem dX4_setRate_33 : decode cX4_setRate 33 = .ok (.putfield 60, 3) := by decide +kernel
theorem dX4_setRate_36 : decode cX4_setRate 36 = .ok (.iload_n 2, 1) := by decide +kernel
theorem dX4_setRate_37 : decode cX4_setRate 37 = .ok (.ireturn, 1) := by decide +kernel
theorem dX4_setBonus_0 : decode cX4_setBonus 0 = .ok (.iload_n 1, 1) := by decide +kernel
theorem dX4_setBonus_1 : decode cX4_setBonus 1 = .ok (.iconst 0, 1) := by decide +kernel
theorem dX4_setBonus_2 : decode cX4_setBonus 2 = .ok (.sipush 500, 3) := by decide +kernel
theorem dX4_setBonus_5 : decode cX4_setBonus 5 = .ok (.invokestatic 34, 3) := by decide +kernel
theorem dX4_setBonus_8 : decode cX4_setBonus 8 = .ok (.ifCond .eq 7, 3) := by decide +kernel
theorem dX4_setBonus_11 : decode cX4_setBonus 11 = .ok (.sipush (-10001), 3) := by decide +kernel
theorem dX4_setBonus_14 : decode cX4_setBonus 14 = .ok (.ireturn, 1) := by decide +kernel
theorem dX4_setBonus_15 : decode cX4_setBonus 15 = .ok (.aload_n 0, 1) := by decide +kernel
theorem dX4_setBonus_16 : decode cX4_setBonus 16 = .ok (.invokevirtual 41, 3) := by decide +kernel
theorem dX4_setBonus_19 : decode cX4_setBonus 19 = .ok (.aload_n 0, 1) := by decide +kernel
theorem dX4_setBonus_20 : decode cX4_setBonus 20 = .ok (.getfield 10, 3) := by decide +kernel
theorem dX4_setBonus_23 : decode cX4_setBonus 23 = .ok (.getfield 63, 3) := by decide +kernel
theorem dX4_setBonus_26 : decode cX4_setBonus 26 = .ok (.istore_n 2, 1) := by decide +kernel
theorem dX4_setBonus_27 : decode cX4_setBonus 27 = .ok (.aload_n 0, 1) := by decide +kernel
theorem dX4_setBonus_28 : decode cX4_setBonus 28 = .ok (.getfield 10, 3) := by decide +kernel
theorem dX4_setBonus_31 : decode cX4_setBonus 31 = .ok (.iload_n 1, 1) := by decide +kernel
theorem dX4_setBonus_32 : decode cX4_setBonus 32 = .ok (.putfield 63, 3) := by decide +kernel
theorem dX4_setBonus_35 : decode cX4_setBonus 35 = .ok (.iload_n 2, 1) := by decide +kernel
theorem dX4_setBonus_36 : decode cX4_setBonus 36 = .ok (.ireturn, 1) := by decide +kernel
theorem dX4_report_0 : decode cX4_report 0 = .ok (.aload_n 0, 1) := by decide +kernel
theorem dX4_report_1 : decode cX4_report 1 = .ok (.getfield 10, 3) := by decide +kernel
theorem dX4_report_4 : decode cX4_report 4 = .ok (.iload_n 1, 1) := by decide +kernel
theorem dX4_report_5 : decode cX4_report 5 = .ok (.invokevirtual 66, 3) := by decide +kernel
theorem dX4_report_8 : decode cX4_report 8 = .ok (.ifCond .eq 24, 3) := by decide +kernel
theorem dX4_report_11 : decode cX4_report 11 = .ok (.aload_n 0, 1) := by decide +kernel
theorem dX4_report_12 : decode cX4_report 12 = .ok (.getfield 10, 3) := by decide +kernel
theorem dX4_report_15 : decode cX4_report 15 = .ok (.iload_n 2, 1) := by decide +kernel
theorem dX4_report_16 : decode cX4_report 16 = .ok (.invokevirtual 70, 3) := by decide +kernel
theorem dX4_report_19 : decode cX4_report 19 = .ok (.ifCond .eq 13, 3) := by decide +kernel
theorem dX4_report_22 : decode cX4_report 22 = .ok (.iload_n 3, 1) := by decide +kernel
theorem dX4_report_23 : decode cX4_report 23 = .ok (.iconst 0, 1) := by decide +kernel
theorem dX4_report_24 : decode cX4_report 24 = .ok (.bipush 99, 2) := by decide +kernel
theorem dX4_report_26 : decode cX4_report 26 = .ok (.invokestatic 34, 3) := by decide +kernel
theorem dX4_report_29 : decode cX4_report 29 = .ok (.ifCond .eq 7, 3) := by decide +kernel
theorem dX4_report_32 : decode cX4_report 32 = .ok (.sipush (-10001), 3) := by decide +kernel
theorem dX4_report_35 : decode cX4_report 35 = .ok (.ireturn, 1) := by decide +kernel
theorem dX4_report_36 : decode cX4_report 36 = .ok (.aload_n 0, 1) := by decide +kernel
theorem dX4_report_37 : decode cX4_report 37 = .ok (.getfield 10, 3) := by decide +kernel
theorem dX4_report_40 : decode cX4_report 40 = .ok (.getfield 73, 3) := by decide +kernel
theorem dX4_report_43 : decode cX4_report 43 = .ok (.bipush 40, 2) := by decide +kernel
theorem dX4_report_45 : decode cX4_report 45 = .ok (.if_icmp .lt 7, 3) := by decide +kernel
theorem dX4_report_48 : decode cX4_report 48 = .ok (.sipush (-10003), 3) := by decide +kernel
theorem dX4_report_51 : decode cX4_report 51 = .ok (.ireturn, 1) := by decide +kernel
theorem dX4_report_52 : decode cX4_report 52 = .ok (.aload_n 0, 1) := by decide +kernel
theorem dX4_report_53 : decode cX4_report 53 = .ok (.invokevirtual 41, 3) := by decide +kernel
theorem dX4_report_56 : decode cX4_report 56 = .ok (.aload_n 0, 1) := by decide +kernel
theorem dX4_report_57 : decode cX4_report 57 = .ok (.getfield 10, 3) := by decide +kernel
theorem dX4_report_60 : decode cX4_report 60 = .ok (.iload_n 1, 1) := by decide +kernel
theorem dX4_report_61 : decode cX4_report 61 = .ok (.iload_n 2, 1) := by decide +kernel
theorem dX4_report_62 : decode cX4_report 62 = .ok (.iload_n 3, 1) := by decide +kernel
theorem dX4_report_63 : decode cX4_report 63 = .ok (.invokevirtual 76, 3) := by decide +kernel
theorem dX4_report_66 : decode cX4_report 66 = .ok (.ireturn, 1) := by decide +kernel
theorem dX4_fold_0 : decode cX4_fold 0 = .ok (.aload_n 0, 1) := by decide +kernel
theorem dX4_fold_1 : decode cX4_fold 1 = .ok (.getfield 10, 3) := by decide +kernel
theorem dX4_fold_4 : decode cX4_fold 4 = .ok (.iload_n 1, 1) := by decide +kernel
theorem dX4_fold_5 : decode cX4_fold 5 = .ok (.invokevirtual 80, 3) := by decide +kernel
theorem dX4_fold_8 : decode cX4_fold 8 = .ok (.ifCond .ne 7, 3) := by decide +kernel
theorem dX4_fold_11 : decode cX4_fold 11 = .ok (.sipush (-10001), 3) := by decide +kernel
theorem dX4_fold_14 : decode cX4_fold 14 = .ok (.ireturn, 1) := by decide +kernel
theorem dX4_fold_15 : decode cX4_fold 15 = .ok (.aload_n 0, 1) := by decide +kernel
theorem dX4_fold_16 : decode cX4_fold 16 = .ok (.getfield 10, 3) := by decide +kernel
theorem dX4_fold_19 : decode cX4_fold 19 = .ok (.iload_n 1, 1) := by decide +kernel
theorem dX4_fold_20 : decode cX4_fold 20 = .ok (.invokevirtual 83, 3) := by decide +kernel
theorem dX4_fold_23 : decode cX4_fold 23 = .ok (.istore_n 2, 1) := by decide +kernel
theorem dX4_fold_24 : decode cX4_fold 24 = .ok (.iload_n 2, 1) := by decide +kernel
theorem dX4_fold_25 : decode cX4_fold 25 = .ok (.sipush (-10009), 3) := by decide +kernel
theorem dX4_fold_28 : decode cX4_fold 28 = .ok (.if_icmp .ne 7, 3) := by decide +kernel
theorem dX4_fold_31 : decode cX4_fold 31 = .ok (.sipush (-10002), 3) := by decide +kernel
theorem dX4_fold_34 : decode cX4_fold 34 = .ok (.ireturn, 1) := by decide +kernel
theorem dX4_fold_35 : decode cX4_fold 35 = .ok (.aload_n 0, 1) := by decide +kernel
theorem dX4_fold_36 : decode cX4_fold 36 = .ok (.invokevirtual 41, 3) := by decide +kernel
theorem dX4_fold_39 : decode cX4_fold 39 = .ok (.aload_n 0, 1) := by decide +kernel
theorem dX4_fold_40 : decode cX4_fold 40 = .ok (.getfield 10, 3) := by decide +kernel
theorem dX4_fold_43 : decode cX4_fold 43 = .ok (.getfield 87, 3) := by decide +kernel
theorem dX4_fold_46 : decode cX4_fold 46 = .ok (.iload_n 1, 1) := by decide +kernel
theorem dX4_fold_47 : decode cX4_fold 47 = .ok (.aaload, 1) := by decide +kernel
theorem dX4_fold_48 : decode cX4_fold 48 = .ok (.astore_n 3, 1) := by decide +kernel
theorem dX4_fold_49 : decode cX4_fold 49 = .ok (.aload_n 3, 1) := by decide +kernel
theorem dX4_fold_50 : decode cX4_fold 50 = .ok (.iconst 5, 1) := by decide +kernel
theorem dX4_fold_51 : decode cX4_fold 51 = .ok (.putfield 91, 3) := by decide +kernel
theorem dX4_fold_54 : decode cX4_fold 54 = .ok (.aload_n 3, 1) := by decide +kernel
theorem dX4_fold_55 : decode cX4_fold 55 = .ok (.iload_n 2, 1) := by decide +kernel
theorem dX4_fold_56 : decode cX4_fold 56 = .ok (.putfield 96, 3) := by decide +kernel
theorem dX4_fold_59 : decode cX4_fold 59 = .ok (.iload_n 2, 1) := by decide +kernel
theorem dX4_fold_60 : decode cX4_fold 60 = .ok (.ireturn, 1) := by decide +kernel
theorem dX4_grade_0 : decode cX4_grade 0 = .ok (.aload_n 0, 1) := by decide +kernel
theorem dX4_grade_1 : decode cX4_grade 1 = .ok (.getfield 10, 3) := by decide +kernel
theorem dX4_grade_4 : decode cX4_grade 4 = .ok (.iload_n 1, 1) := by decide +kernel
theorem dX4_grade_5 : decode cX4_grade 5 = .ok (.invokevirtual 80, 3) := by decide +kernel
theorem dX4_grade_8 : decode cX4_grade 8 = .ok (.ifCond .eq 12, 3) := by decide +kernel
theorem dX4_grade_11 : decode cX4_grade 11 = .ok (.iload_n 2, 1) := by decide +kernel
theorem dX4_grade_12 : decode cX4_grade 12 = .ok (.iconst 1, 1) := by decide +kernel
theorem dX4_grade_13 : decode cX4_grade 13 = .ok (.iconst 4, 1) := by decide +kernel
theorem dX4_grade_14 : decode cX4_grade 14 = .ok (.invokestatic 34, 3) := by decide +kernel
theorem dX4_grade_17 : decode cX4_grade 17 = .ok (.ifCond .eq 7, 3) := by decide +kernel
theorem dX4_grade_20 : decode cX4_grade 20 = .ok (.sipush (-10001), 3) := by decide +kernel
theorem dX4_grade_23 : decode cX4_grade 23 = .ok (.ireturn, 1) := by decide +kernel
theorem dX4_grade_24 : decode cX4_grade 24 = .ok (.aload_n 0, 1) := by decide +kernel
theorem dX4_grade_25 : decode cX4_grade 25 = .ok (.getfield 10, 3) := by decide +kernel
theorem dX4_grade_28 : decode cX4_grade 28 = .ok (.getfield 87, 3) := by decide +kernel
theorem dX4_grade_31 : decode cX4_grade 31 = .ok (.iload_n 1, 1) := by decide +kernel
theorem dX4_grade_32 : decode cX4_grade 32 = .ok (.aaload, 1) := by decide +kernel
theorem dX4_grade_33 : decode cX4_grade 33 = .ok (.astore_n 3, 1) := by decide +kernel
theorem dX4_grade_34 : decode cX4_grade 34 = .ok (.aload_n 3, 1) := by decide +kernel
theorem dX4_grade_35 : decode cX4_grade 35 = .ok (.getfield 91, 3) := by decide +kernel
theorem dX4_grade_38 : decode cX4_grade 38 = .ok (.ifCond .eq 7, 3) := by decide +kernel
theorem dX4_grade_41 : decode cX4_grade 41 = .ok (.sipush (-10002), 3) := by decide +kernel
theorem dX4_grade_44 : decode cX4_grade 44 = .ok (.ireturn, 1) := by decide +kernel
theorem dX4_grade_45 : decode cX4_grade 45 = .ok (.aload_n 0, 1) := by decide +kernel
theorem dX4_grade_46 : decode cX4_grade 46 = .ok (.invokevirtual 41, 3) := by decide +kernel
theorem dX4_grade_49 : decode cX4_grade 49 = .ok (.aload_n 3, 1) := by decide +kernel
theorem dX4_grade_50 : decode cX4_grade 50 = .ok (.iconst 1, 1) := by decide +kernel
theorem dX4_grade_51 : decode cX4_grade 51 = .ok (.putfield 91, 3) := by decide +kernel
theorem dX4_grade_54 : decode cX4_grade 54 = .ok (.aload_n 3, 1) := by decide +kernel
theorem dX4_grade_55 : decode cX4_grade 55 = .ok (.iload_n 2, 1) := by decide +kernel
theorem dX4_grade_56 : decode cX4_grade 56 = .ok (.putfield 99, 3) := by decide +kernel
theorem dX4_grade_59 : decode cX4_grade 59 = .ok (.aload_n 0, 1) := by decide +kernel
theorem dX4_grade_60 : decode cX4_grade 60 = .ok (.getfield 10, 3) := by decide +kernel
theorem dX4_grade_63 : decode cX4_grade 63 = .ok (.aload_n 3, 1) := by decide +kernel
theorem dX4_grade_64 : decode cX4_grade 64 = .ok (.invokevirtual 102, 3) := by decide +kernel
theorem dX4_grade_67 : decode cX4_grade 67 = .ok (.ireturn, 1) := by decide +kernel
theorem dX4_refuse_0 : decode cX4_refuse 0 = .ok (.aload_n 0, 1) := by decide +kernel
theorem dX4_refuse_1 : decode cX4_refuse 1 = .ok (.getfield 10, 3) := by decide +kernel
theorem dX4_refuse_4 : decode cX4_refuse 4 = .ok (.iload_n 1, 1) := by decide +kernel
theorem dX4_refuse_5 : decode cX4_refuse 5 = .ok (.invokevirtual 80, 3) := by decide +kernel
theorem dX4_refuse_8 : decode cX4_refuse 8 = .ok (.ifCond .ne 7, 3) := by decide +kernel
theorem dX4_refuse_11 : decode cX4_refuse 11 = .ok (.sipush (-10001), 3) := by decide +kernel
theorem dX4_refuse_14 : decode cX4_refuse 14 = .ok (.ireturn, 1) := by decide +kernel
theorem dX4_refuse_15 : decode cX4_refuse 15 = .ok (.aload_n 0, 1) := by decide +kernel
theorem dX4_refuse_16 : decode cX4_refuse 16 = .ok (.getfield 10, 3) := by decide +kernel
theorem dX4_refuse_19 : decode cX4_refuse 19 = .ok (.getfield 87, 3) := by decide +kernel
theorem dX4_refuse_22 : decode cX4_refuse 22 = .ok (.iload_n 1, 1) := by decide +kernel
theorem dX4_refuse_23 : decode cX4_refuse 23 = .ok (.aaload, 1) := by decide +kernel
theorem dX4_refuse_24 : decode cX4_refuse 24 = .ok (.astore_n 2, 1) := by decide +kernel
theorem dX4_refuse_25 : decode cX4_refuse 25 = .ok (.aload_n 2, 1) := by decide +kernel
theorem dX4_refuse_26 : decode cX4_refuse 26 = .ok (.getfield 91, 3) := by decide +kernel
theorem dX4_refuse_29 : decode cX4_refuse 29 = .ok (.ifCond .eq 14, 3) := by decide +kernel
theorem dX4_refuse_32 : decode cX4_refuse 32 = .ok (.aload_n 2, 1) := by decide +kernel
theorem dX4_refuse_33 : decode cX4_refuse 33 = .ok (.invokevirtual 106, 3) := by decide +kernel
theorem dX4_refuse_36 : decode cX4_refuse 36 = .ok (.ifCond .ne 7, 3) := by decide +kernel
theorem dX4_refuse_39 : decode cX4_refuse 39 = .ok (.sipush (-10002), 3) := by decide +kernel
theorem dX4_refuse_42 : decode cX4_refuse 42 = .ok (.ireturn, 1) := by decide +kernel
theorem dX4_refuse_43 : decode cX4_refuse 43 = .ok (.aload_n 2, 1) := by decide +kernel
theorem dX4_refuse_44 : decode cX4_refuse 44 = .ok (.getfield 110, 3) := by decide +kernel
theorem dX4_refuse_47 : decode cX4_refuse 47 = .ok (.iconst 1, 1) := by decide +kernel
theorem dX4_refuse_48 : decode cX4_refuse 48 = .ok (.if_icmp .ne 7, 3) := by decide +kernel
theorem dX4_refuse_51 : decode cX4_refuse 51 = .ok (.sipush (-10002), 3) := by decide +kernel
theorem dX4_refuse_54 : decode cX4_refuse 54 = .ok (.ireturn, 1) := by decide +kernel
theorem dX4_refuse_55 : decode cX4_refuse 55 = .ok (.aload_n 0, 1) := by decide +kernel
theorem dX4_refuse_56 : decode cX4_refuse 56 = .ok (.invokevirtual 41, 3) := by decide +kernel
theorem dX4_refuse_59 : decode cX4_refuse 59 = .ok (.aload_n 2, 1) := by decide +kernel
theorem dX4_refuse_60 : decode cX4_refuse 60 = .ok (.iconst 4, 1) := by decide +kernel
theorem dX4_refuse_61 : decode cX4_refuse 61 = .ok (.putfield 91, 3) := by decide +kernel
theorem dX4_refuse_64 : decode cX4_refuse 64 = .ok (.aload_n 0, 1) := by decide +kernel
theorem dX4_refuse_65 : decode cX4_refuse 65 = .ok (.getfield 10, 3) := by decide +kernel
theorem dX4_refuse_68 : decode cX4_refuse 68 = .ok (.iload_n 1, 1) := by decide +kernel
theorem dX4_refuse_69 : decode cX4_refuse 69 = .ok (.invokevirtual 113, 3) := by decide +kernel
theorem dX4_refuse_72 : decode cX4_refuse 72 = .ok (.ireturn, 1) := by decide +kernel
theorem dX4_appeal_0 : decode cX4_appeal 0 = .ok (.aload_n 0, 1) := by decide +kernel
theorem dX4_appeal_1 : decode cX4_appeal 1 = .ok (.getfield 10, 3) := by decide +kernel
theorem dX4_appeal_4 : decode cX4_appeal 4 = .ok (.iload_n 1, 1) := by decide +kernel
theorem dX4_appeal_5 : decode cX4_appeal 5 = .ok (.invokevirtual 80, 3) := by decide +kernel
theorem dX4_appeal_8 : decode cX4_appeal 8 = .ok (.ifCond .eq 12, 3) := by decide +kernel
theorem dX4_appeal_11 : decode cX4_appeal 11 = .ok (.iload_n 2, 1) := by decide +kernel
theorem dX4_appeal_12 : decode cX4_appeal 12 = .ok (.iconst 2, 1) := by decide +kernel
theorem dX4_appeal_13 : decode cX4_appeal 13 = .ok (.iconst 4, 1) := by decide +kernel
theorem dX4_appeal_14 : decode cX4_appeal 14 = .ok (.invokestatic 34, 3) := by decide +kernel
theorem dX4_appeal_17 : decode cX4_appeal 17 = .ok (.ifCond .eq 7, 3) := by decide +kernel
theorem dX4_appeal_20 : decode cX4_appeal 20 = .ok (.sipush (-10001), 3) := by decide +kernel
theorem dX4_appeal_23 : decode cX4_appeal 23 = .ok (.ireturn, 1) := by decide +kernel
theorem dX4_appeal_24 : decode cX4_appeal 24 = .ok (.aload_n 0, 1) := by decide +kernel
theorem dX4_appeal_25 : decode cX4_appeal 25 = .ok (.getfield 10, 3) := by decide +kernel
theorem dX4_appeal_28 : decode cX4_appeal 28 = .ok (.getfield 87, 3) := by decide +kernel
theorem dX4_appeal_31 : decode cX4_appeal 31 = .ok (.iload_n 1, 1) := by decide +kernel
theorem dX4_appeal_32 : decode cX4_appeal 32 = .ok (.aaload, 1) := by decide +kernel
theorem dX4_appeal_33 : decode cX4_appeal 33 = .ok (.astore_n 3, 1) := by decide +kernel
theorem dX4_appeal_34 : decode cX4_appeal 34 = .ok (.aload_n 3, 1) := by decide +kernel
theorem dX4_appeal_35 : decode cX4_appeal 35 = .ok (.invokevirtual 106, 3) := by decide +kernel
theorem dX4_appeal_38 : decode cX4_appeal 38 = .ok (.ifCond .eq 18, 3) := by decide +kernel
theorem dX4_appeal_41 : decode cX4_appeal 41 = .ok (.aload_n 3, 1) := by decide +kernel
theorem dX4_appeal_42 : decode cX4_appeal 42 = .ok (.getfield 110, 3) := by decide +kernel
theorem dX4_appeal_45 : decode cX4_appeal 45 = .ok (.ifCond .ne 11, 3) := by decide +kernel
theorem dX4_appeal_48 : decode cX4_appeal 48 = .ok (.iload_n 2, 1) := by decide +kernel
theorem dX4_appeal_49 : decode cX4_appeal 49 = .ok (.aload_n 3, 1) := by decide +kernel
theorem dX4_appeal_50 : decode cX4_appeal 50 = .ok (.getfield 99, 3) := by decide +kernel
theorem dX4_appeal_53 : decode cX4_appeal 53 = .ok (.if_icmp .gt 7, 3) := by decide +kernel
theorem dX4_appeal_56 : decode cX4_appeal 56 = .ok (.sipush (-10002), 3) := by decide +kernel
theorem dX4_appeal_59 : decode cX4_appeal 59 = .ok (.ireturn, 1) := by decide +kernel
theorem dX4_appeal_60 : decode cX4_appeal 60 = .ok (.aload_n 0, 1) := by decide +kernel
theorem dX4_appeal_61 : decode cX4_appeal 61 = .ok (.invokevirtual 41, 3) := by decide +kernel
theorem dX4_appeal_64 : decode cX4_appeal 64 = .ok (.aload_n 3, 1) := by decide +kernel
theorem dX4_appeal_65 : decode cX4_appeal 65 = .ok (.iconst 1, 1) := by decide +kernel
theorem dX4_appeal_66 : decode cX4_appeal 66 = .ok (.putfield 110, 3) := by decide +kernel
theorem dX4_appeal_69 : decode cX4_appeal 69 = .ok (.aload_n 3, 1) := by decide +kernel
theorem dX4_appeal_70 : decode cX4_appeal 70 = .ok (.iload_n 2, 1) := by decide +kernel
theorem dX4_appeal_71 : decode cX4_appeal 71 = .ok (.putfield 116, 3) := by decide +kernel
theorem dX4_appeal_74 : decode cX4_appeal 74 = .ok (.aload_n 0, 1) := by decide +kernel
theorem dX4_appeal_75 : decode cX4_appeal 75 = .ok (.getfield 10, 3) := by decide +kernel
theorem dX4_appeal_78 : decode cX4_appeal 78 = .ok (.aload_n 3, 1) := by decide +kernel
theorem dX4_appeal_79 : decode cX4_appeal 79 = .ok (.iload_n 2, 1) := by decide +kernel
theorem dX4_appeal_80 : decode cX4_appeal 80 = .ok (.invokevirtual 119, 3) := by decide +kernel
theorem dX4_appeal_83 : decode cX4_appeal 83 = .ok (.ireturn, 1) := by decide +kernel
theorem dX4_decide_0 : decode cX4_decide 0 = .ok (.aload_n 0, 1) := by decide +kernel
theorem dX4_decide_1 : decode cX4_decide 1 = .ok (.getfield 10, 3) := by decide +kernel
theorem dX4_decide_4 : decode cX4_decide 4 = .ok (.iload_n 1, 1) := by decide +kernel
theorem dX4_decide_5 : decode cX4_decide 5 = .ok (.invokevirtual 80, 3) := by decide +kernel
theorem dX4_decide_8 : decode cX4_decide 8 = .ok (.ifCond .ne 7, 3) := by decide +kernel
theorem dX4_decide_11 : decode cX4_decide 11 = .ok (.sipush (-10001), 3) := by decide +kernel
theorem dX4_decide_14 : decode cX4_decide 14 = .ok (.ireturn, 1) := by decide +kernel
theorem dX4_decide_15 : decode cX4_decide 15 = .ok (.aload_n 0, 1) := by decide +kernel
theorem dX4_decide_16 : decode cX4_decide 16 = .ok (.getfield 10, 3) := by decide +kernel
theorem dX4_decide_19 : decode cX4_decide 19 = .ok (.getfield 87, 3) := by decide +kernel
theorem dX4_decide_22 : decode cX4_decide 22 = .ok (.iload_n 1, 1) := by decide +kernel
theorem dX4_decide_23 : decode cX4_decide 23 = .ok (.aaload, 1) := by decide +kernel
theorem dX4_decide_24 : decode cX4_decide 24 = .ok (.astore_n 3, 1) := by decide +kernel
theorem dX4_decide_25 : decode cX4_decide 25 = .ok (.aload_n 3, 1) := by decide +kernel
theorem dX4_decide_26 : decode cX4_decide 26 = .ok (.getfield 110, 3) := by decide +kernel
theorem dX4_decide_29 : decode cX4_decide 29 = .ok (.iconst 1, 1) := by decide +kernel
theorem dX4_decide_30 : decode cX4_decide 30 = .ok (.if_icmp .eq 7, 3) := by decide +kernel
theorem dX4_decide_33 : decode cX4_decide 33 = .ok (.sipush (-10002), 3) := by decide +kernel
theorem dX4_decide_36 : decode cX4_decide 36 = .ok (.ireturn, 1) := by decide +kernel
theorem dX4_decide_37 : decode cX4_decide 37 = .ok (.iload_n 2, 1) := by decide +kernel
theorem dX4_decide_38 : decode cX4_decide 38 = .ok (.aload_n 3, 1) := by decide +kernel
theorem dX4_decide_39 : decode cX4_decide 39 = .ok (.getfield 99, 3) := by decide +kernel
theorem dX4_decide_42 : decode cX4_decide 42 = .ok (.aload_n 3, 1) := by decide +kernel
theorem dX4_decide_43 : decode cX4_decide 43 = .ok (.getfield 116, 3) := by decide +kernel
theorem dX4_decide_46 : decode cX4_decide 46 = .ok (.invokestatic 34, 3) := by decide +kernel
theorem dX4_decide_49 : decode cX4_decide 49 = .ok (.ifCond .eq 7, 3) := by decide +kernel
theorem dX4_decide_52 : decode cX4_decide 52 = .ok (.sipush (-10001), 3) := by decide +kernel
theorem dX4_decide_55 : decode cX4_decide 55 = .ok (.ireturn, 1) := by decide +kernel
theorem dX4_decide_56 : decode cX4_decide 56 = .ok (.aload_n 0, 1) := by decide +kernel
theorem dX4_decide_57 : decode cX4_decide 57 = .ok (.invokevirtual 41, 3) := by decide +kernel
theorem dX4_decide_60 : decode cX4_decide 60 = .ok (.aload_n 0, 1) := by decide +kernel
theorem dX4_decide_61 : decode cX4_decide 61 = .ok (.getfield 10, 3) := by decide +kernel
theorem dX4_decide_64 : decode cX4_decide 64 = .ok (.aload_n 3, 1) := by decide +kernel
theorem dX4_decide_65 : decode cX4_decide 65 = .ok (.iload_n 2, 1) := by decide +kernel
theorem dX4_decide_66 : decode cX4_decide 66 = .ok (.invokevirtual 123, 3) := by decide +kernel
theorem dX4_decide_69 : decode cX4_decide 69 = .ok (.ireturn, 1) := by decide +kernel
theorem dX4_pay_0 : decode cX4_pay 0 = .ok (.aload_n 0, 1) := by decide +kernel
theorem dX4_pay_1 : decode cX4_pay 1 = .ok (.getfield 10, 3) := by decide +kernel
theorem dX4_pay_4 : decode cX4_pay 4 = .ok (.iload_n 1, 1) := by decide +kernel
theorem dX4_pay_5 : decode cX4_pay 5 = .ok (.invokevirtual 80, 3) := by decide +kernel
theorem dX4_pay_8 : decode cX4_pay 8 = .ok (.ifCond .ne 7, 3) := by decide +kernel
theorem dX4_pay_11 : decode cX4_pay 11 = .ok (.sipush (-10001), 3) := by decide +kernel
theorem dX4_pay_14 : decode cX4_pay 14 = .ok (.ireturn, 1) := by decide +kernel
theorem dX4_pay_15 : decode cX4_pay 15 = .ok (.aload_n 0, 1) := by decide +kernel
theorem dX4_pay_16 : decode cX4_pay 16 = .ok (.getfield 10, 3) := by decide +kernel
theorem dX4_pay_19 : decode cX4_pay 19 = .ok (.getfield 87, 3) := by decide +kernel
theorem dX4_pay_22 : decode cX4_pay 22 = .ok (.iload_n 1, 1) := by decide +kernel
theorem dX4_pay_23 : decode cX4_pay 23 = .ok (.aaload, 1) := by decide +kernel
theorem dX4_pay_24 : decode cX4_pay 24 = .ok (.astore_n 2, 1) := by decide +kernel
theorem dX4_pay_25 : decode cX4_pay 25 = .ok (.aload_n 2, 1) := by decide +kernel
theorem dX4_pay_26 : decode cX4_pay 26 = .ok (.invokevirtual 106, 3) := by decide +kernel
theorem dX4_pay_29 : decode cX4_pay 29 = .ok (.ifCond .eq 11, 3) := by decide +kernel
theorem dX4_pay_32 : decode cX4_pay 32 = .ok (.aload_n 2, 1) := by decide +kernel
theorem dX4_pay_33 : decode cX4_pay 33 = .ok (.getfield 110, 3) := by decide +kernel
theorem dX4_pay_36 : decode cX4_pay 36 = .ok (.iconst 1, 1) := by decide +kernel
theorem dX4_pay_37 : decode cX4_pay 37 = .ok (.if_icmp .ne 7, 3) := by decide +kernel
theorem dX4_pay_40 : decode cX4_pay 40 = .ok (.sipush (-10002), 3) := by decide +kernel
theorem dX4_pay_43 : decode cX4_pay 43 = .ok (.ireturn, 1) := by decide +kernel
theorem dX4_pay_44 : decode cX4_pay 44 = .ok (.aload_n 0, 1) := by decide +kernel
theorem dX4_pay_45 : decode cX4_pay 45 = .ok (.invokevirtual 41, 3) := by decide +kernel
theorem dX4_pay_48 : decode cX4_pay 48 = .ok (.aload_n 0, 1) := by decide +kernel
theorem dX4_pay_49 : decode cX4_pay 49 = .ok (.getfield 10, 3) := by decide +kernel
theorem dX4_pay_52 : decode cX4_pay 52 = .ok (.iload_n 1, 1) := by decide +kernel
theorem dX4_pay_53 : decode cX4_pay 53 = .ok (.invokevirtual 126, 3) := by decide +kernel
theorem dX4_pay_56 : decode cX4_pay 56 = .ok (.ireturn, 1) := by decide +kernel
theorem dX4_retest_0 : decode cX4_retest 0 = .ok (.aload_n 0, 1) := by decide +kernel
theorem dX4_retest_1 : decode cX4_retest 1 = .ok (.getfield 10, 3) := by decide +kernel
theorem dX4_retest_4 : decode cX4_retest 4 = .ok (.iload_n 1, 1) := by decide +kernel
theorem dX4_retest_5 : decode cX4_retest 5 = .ok (.invokevirtual 66, 3) := by decide +kernel
theorem dX4_retest_8 : decode cX4_retest 8 = .ok (.ifCond .eq 23, 3) := by decide +kernel
theorem dX4_retest_11 : decode cX4_retest 11 = .ok (.aload_n 0, 1) := by decide +kernel
theorem dX4_retest_12 : decode cX4_retest 12 = .ok (.getfield 10, 3) := by decide +kernel
theorem dX4_retest_15 : decode cX4_retest 15 = .ok (.iload_n 2, 1) := by decide +kernel
theorem dX4_retest_16 : decode cX4_retest 16 = .ok (.invokevirtual 80, 3) := by decide +kernel
theorem dX4_retest_19 : decode cX4_retest 19 = .ok (.ifCond .eq 12, 3) := by decide +kernel
theorem dX4_retest_22 : decode cX4_retest 22 = .ok (.iload_n 3, 1) := by decide +kernel
theorem dX4_retest_23 : decode cX4_retest 23 = .ok (.iconst 0, 1) := by decide +kernel
theorem dX4_retest_24 : decode cX4_retest 24 = .ok (.iconst 1, 1) := by decide +kernel
theorem dX4_retest_25 : decode cX4_retest 25 = .ok (.invokestatic 34, 3) := by decide +kernel
theorem dX4_retest_28 : decode cX4_retest 28 = .ok (.ifCond .eq 7, 3) := by decide +kernel
theorem dX4_retest_31 : decode cX4_retest 31 = .ok (.sipush (-10001), 3) := by decide +kernel
theorem dX4_retest_34 : decode cX4_retest 34 = .ok (.ireturn, 1) := by decide +kernel
theorem dX4_retest_35 : decode cX4_retest 35 = .ok (.aload_n 0, 1) := by decide +kernel
theorem dX4_retest_36 : decode cX4_retest 36 = .ok (.getfield 10, 3) := by decide +kernel
theorem dX4_retest_39 : decode cX4_retest 39 = .ok (.getfield 87, 3) := by decide +kernel
theorem dX4_retest_42 : decode cX4_retest 42 = .ok (.iload_n 2, 1) := by decide +kernel
theorem dX4_retest_43 : decode cX4_retest 43 = .ok (.aaload, 1) := by decide +kernel
theorem dX4_retest_44 : decode cX4_retest 44 = .ok (.astore 4, 2) := by decide +kernel
theorem dX4_retest_46 : decode cX4_retest 46 = .ok (.aload 4, 2) := by decide +kernel
theorem dX4_retest_48 : decode cX4_retest 48 = .ok (.getfield 91, 3) := by decide +kernel
theorem dX4_retest_51 : decode cX4_retest 51 = .ok (.iconst 3, 1) := by decide +kernel
theorem dX4_retest_52 : decode cX4_retest 52 = .ok (.if_icmp .ne 11, 3) := by decide +kernel
theorem dX4_retest_55 : decode cX4_retest 55 = .ok (.aload 4, 2) := by decide +kernel
theorem dX4_retest_57 : decode cX4_retest 57 = .ok (.getfield 129, 3) := by decide +kernel
theorem dX4_retest_60 : decode cX4_retest 60 = .ok (.ifCond .eq 7, 3) := by decide +kernel
theorem dX4_retest_63 : decode cX4_retest 63 = .ok (.sipush (-10002), 3) := by decide +kernel
theorem dX4_retest_66 : decode cX4_retest 66 = .ok (.ireturn, 1) := by decide +kernel
theorem dX4_retest_67 : decode cX4_retest 67 = .ok (.aload 4, 2) := by decide +kernel
theorem dX4_retest_69 : decode cX4_retest 69 = .ok (.iload_n 1, 1) := by decide +kernel
theorem dX4_retest_70 : decode cX4_retest 70 = .ok (.invokevirtual 133, 3) := by decide +kernel
theorem dX4_retest_73 : decode cX4_retest 73 = .ok (.ifCond .ne 15, 3) := by decide +kernel
theorem dX4_retest_76 : decode cX4_retest 76 = .ok (.aload_n 0, 1) := by decide +kernel
theorem dX4_retest_77 : decode cX4_retest 77 = .ok (.getfield 10, 3) := by decide +kernel
theorem dX4_retest_80 : decode cX4_retest 80 = .ok (.iload_n 1, 1) := by decide +kernel
theorem dX4_retest_81 : decode cX4_retest 81 = .ok (.iload_n 2, 1) := by decide +kernel
theorem dX4_retest_82 : decode cX4_retest 82 = .ok (.invokevirtual 136, 3) := by decide +kernel
theorem dX4_retest_85 : decode cX4_retest 85 = .ok (.ifCond .eq 7, 3) := by decide +kernel
theorem dX4_retest_88 : decode cX4_retest 88 = .ok (.sipush (-10002), 3) := by decide +kernel
theorem dX4_retest_91 : decode cX4_retest 91 = .ok (.ireturn, 1) := by decide +kernel
theorem dX4_retest_92 : decode cX4_retest 92 = .ok (.aload_n 0, 1) := by decide +kernel
theorem dX4_retest_93 : decode cX4_retest 93 = .ok (.invokevirtual 41, 3) := by decide +kernel
theorem dX4_retest_96 : decode cX4_retest 96 = .ok (.aload_n 0, 1) := by decide +kernel
theorem dX4_retest_97 : decode cX4_retest 97 = .ok (.getfield 10, 3) := by decide +kernel
theorem dX4_retest_100 : decode cX4_retest 100 = .ok (.iload_n 1, 1) := by decide +kernel
theorem dX4_retest_101 : decode cX4_retest 101 = .ok (.iload_n 2, 1) := by decide +kernel
theorem dX4_retest_102 : decode cX4_retest 102 = .ok (.iload_n 3, 1) := by decide +kernel
theorem dX4_retest_103 : decode cX4_retest 103 = .ok (.iconst 1, 1) := by decide +kernel
theorem dX4_retest_104 : decode cX4_retest 104 = .ok (.if_icmp .ne 7, 3) := by decide +kernel
theorem dX4_retest_107 : decode cX4_retest 107 = .ok (.iconst 1, 1) := by decide +kernel
theorem dX4_retest_108 : decode cX4_retest 108 = .ok (.goto 4, 3) := by decide +kernel
theorem dX4_retest_111 : decode cX4_retest 111 = .ok (.iconst 0, 1) := by decide +kernel
theorem dX4_retest_112 : decode cX4_retest 112 = .ok (.invokevirtual 140, 3) := by decide +kernel
theorem dX4_retest_115 : decode cX4_retest 115 = .ok (.ireturn, 1) := by decide +kernel
theorem dX4_pass_0 : decode cX4_pass 0 = .ok (.iload_n 1, 1) := by decide +kernel
theorem dX4_pass_1 : decode cX4_pass 1 = .ok (.iconst 1, 1) := by decide +kernel
theorem dX4_pass_2 : decode cX4_pass 2 = .ok (.sipush 400, 3) := by decide +kernel
theorem dX4_pass_5 : decode cX4_pass 5 = .ok (.invokestatic 34, 3) := by decide +kernel
theorem dX4_pass_8 : decode cX4_pass 8 = .ok (.ifCond .eq 7, 3) := by decide +kernel
theorem dX4_pass_11 : decode cX4_pass 11 = .ok (.sipush (-10001), 3) := by decide +kernel
theorem dX4_pass_14 : decode cX4_pass 14 = .ok (.ireturn, 1) := by decide +kernel
theorem dX4_pass_15 : decode cX4_pass 15 = .ok (.aload_n 0, 1) := by decide +kernel
theorem dX4_pass_16 : decode cX4_pass 16 = .ok (.getfield 10, 3) := by decide +kernel
theorem dX4_pass_19 : decode cX4_pass 19 = .ok (.getfield 144, 3) := by decide +kernel
theorem dX4_pass_22 : decode cX4_pass 22 = .ok (.iload_n 1, 1) := by decide +kernel
theorem dX4_pass_23 : decode cX4_pass 23 = .ok (.iadd, 1) := by decide +kernel
theorem dX4_pass_24 : decode cX4_pass 24 = .ok (.sipush 9999, 3) := by decide +kernel
theorem dX4_pass_27 : decode cX4_pass 27 = .ok (.if_icmp .le 7, 3) := by decide +kernel
theorem dX4_pass_30 : decode cX4_pass 30 = .ok (.sipush (-10002), 3) := by decide +kernel
theorem dX4_pass_33 : decode cX4_pass 33 = .ok (.ireturn, 1) := by decide +kernel
theorem dX4_pass_34 : decode cX4_pass 34 = .ok (.aload_n 0, 1) := by decide +kernel
theorem dX4_pass_35 : decode cX4_pass 35 = .ok (.invokevirtual 41, 3) := by decide +kernel
theorem dX4_pass_38 : decode cX4_pass 38 = .ok (.aload_n 0, 1) := by decide +kernel
theorem dX4_pass_39 : decode cX4_pass 39 = .ok (.getfield 10, 3) := by decide +kernel
theorem dX4_pass_42 : decode cX4_pass 42 = .ok (.getfield 144, 3) := by decide +kernel
theorem dX4_pass_45 : decode cX4_pass 45 = .ok (.iload_n 1, 1) := by decide +kernel
theorem dX4_pass_46 : decode cX4_pass 46 = .ok (.iadd, 1) := by decide +kernel
theorem dX4_pass_47 : decode cX4_pass 47 = .ok (.bipush 90, 2) := by decide +kernel
theorem dX4_pass_49 : decode cX4_pass 49 = .ok (.idiv, 1) := by decide +kernel
theorem dX4_pass_50 : decode cX4_pass 50 = .ok (.aload_n 0, 1) := by decide +kernel
theorem dX4_pass_51 : decode cX4_pass 51 = .ok (.getfield 10, 3) := by decide +kernel
theorem dX4_pass_54 : decode cX4_pass 54 = .ok (.getfield 144, 3) := by decide +kernel
theorem dX4_pass_57 : decode cX4_pass 57 = .ok (.bipush 90, 2) := by decide +kernel
theorem dX4_pass_59 : decode cX4_pass 59 = .ok (.idiv, 1) := by decide +kernel
theorem dX4_pass_60 : decode cX4_pass 60 = .ok (.isub, 1) := by decide +kernel
theorem dX4_pass_61 : decode cX4_pass 61 = .ok (.istore_n 2, 1) := by decide +kernel
theorem dX4_pass_62 : decode cX4_pass 62 = .ok (.aload_n 0, 1) := by decide +kernel
theorem dX4_pass_63 : decode cX4_pass 63 = .ok (.getfield 10, 3) := by decide +kernel
theorem dX4_pass_66 : decode cX4_pass 66 = .ok (.dup, 1) := by decide +kernel
theorem dX4_pass_67 : decode cX4_pass 67 = .ok (.getfield 144, 3) := by decide +kernel
theorem dX4_pass_70 : decode cX4_pass 70 = .ok (.iload_n 1, 1) := by decide +kernel
theorem dX4_pass_71 : decode cX4_pass 71 = .ok (.iadd, 1) := by decide +kernel
theorem dX4_pass_72 : decode cX4_pass 72 = .ok (.putfield 144, 3) := by decide +kernel
theorem dX4_pass_75 : decode cX4_pass 75 = .ok (.iconst 0, 1) := by decide +kernel
theorem dX4_pass_76 : decode cX4_pass 76 = .ok (.istore_n 3, 1) := by decide +kernel
theorem dX4_pass_77 : decode cX4_pass 77 = .ok (.iconst 0, 1) := by decide +kernel
theorem dX4_pass_78 : decode cX4_pass 78 = .ok (.istore 4, 2) := by decide +kernel
theorem dX4_pass_80 : decode cX4_pass 80 = .ok (.iload 4, 2) := by decide +kernel
theorem dX4_pass_82 : decode cX4_pass 82 = .ok (.iload_n 2, 1) := by decide +kernel
theorem dX4_pass_83 : decode cX4_pass 83 = .ok (.if_icmp .ge 19, 3) := by decide +kernel
theorem dX4_pass_86 : decode cX4_pass 86 = .ok (.iload_n 3, 1) := by decide +kernel
theorem dX4_pass_87 : decode cX4_pass 87 = .ok (.aload_n 0, 1) := by decide +kernel
theorem dX4_pass_88 : decode cX4_pass 88 = .ok (.getfield 10, 3) := by decide +kernel
theorem dX4_pass_91 : decode cX4_pass 91 = .ok (.invokevirtual 147, 3) := by decide +kernel
theorem dX4_pass_94 : decode cX4_pass 94 = .ok (.iadd, 1) := by decide +kernel
theorem dX4_pass_95 : decode cX4_pass 95 = .ok (.istore_n 3, 1) := by decide +kernel
theorem dX4_pass_96 : decode cX4_pass 96 = .ok (.iinc 4 1, 3) := by decide +kernel
theorem dX4_pass_99 : decode cX4_pass 99 = .ok (.goto (-19), 3) := by decide +kernel
theorem dX4_pass_102 : decode cX4_pass 102 = .ok (.iload_n 3, 1) := by decide +kernel
theorem dX4_pass_103 : decode cX4_pass 103 = .ok (.ireturn, 1) := by decide +kernel
theorem dX4_undo_0 : decode cX4_undo 0 = .ok (.aload_n 0, 1) := by decide +kernel
theorem dX4_undo_1 : decode cX4_undo 1 = .ok (.getfield 31, 3) := by decide +kernel
theorem dX4_undo_4 : decode cX4_undo 4 = .ok (.ifCond .ne 7, 3) := by decide +kernel
theorem dX4_undo_7 : decode cX4_undo 7 = .ok (.sipush (-10002), 3) := by decide +kernel
theorem dX4_undo_10 : decode cX4_undo 10 = .ok (.ireturn, 1) := by decide +kernel
theorem dX4_undo_11 : decode cX4_undo 11 = .ok (.aload_n 0, 1) := by decide +kernel
theorem dX4_undo_12 : decode cX4_undo 12 = .ok (.aload_n 0, 1) := by decide +kernel
theorem dX4_undo_13 : decode cX4_undo 13 = .ok (.getfield 27, 3) := by decide +kernel
theorem dX4_undo_16 : decode cX4_undo 16 = .ok (.ifCond .ne 8, 3) := by decide +kernel
theorem dX4_undo_19 : decode cX4_undo 19 = .ok (.bipush 7, 2) := by decide +kernel
theorem dX4_undo_21 : decode cX4_undo 21 = .ok (.goto 9, 3) := by decide +kernel
theorem dX4_undo_24 : decode cX4_undo 24 = .ok (.aload_n 0, 1) := by decide +kernel
theorem dX4_undo_25 : decode cX4_undo 25 = .ok (.getfield 27, 3) := by decide +kernel
theorem dX4_undo_28 : decode cX4_undo 28 = .ok (.iconst 1, 1) := by decide +kernel
theorem dX4_undo_29 : decode cX4_undo 29 = .ok (.isub, 1) := by decide +kernel
theorem dX4_undo_30 : decode cX4_undo 30 = .ok (.putfield 27, 3) := by decide +kernel
theorem dX4_undo_33 : decode cX4_undo 33 = .ok (.aload_n 0, 1) := by decide +kernel
theorem dX4_undo_34 : decode cX4_undo 34 = .ok (.getfield 10, 3) := by decide +kernel
theorem dX4_undo_37 : decode cX4_undo 37 = .ok (.aload_n 0, 1) := by decide +kernel
theorem dX4_undo_38 : decode cX4_undo 38 = .ok (.getfield 19, 3) := by decide +kernel
theorem dX4_undo_41 : decode cX4_undo 41 = .ok (.aload_n 0, 1) := by decide +kernel
theorem dX4_undo_42 : decode cX4_undo 42 = .ok (.getfield 27, 3) := by decide +kernel
theorem dX4_undo_45 : decode cX4_undo 45 = .ok (.aaload, 1) := by decide +kernel
theorem dX4_undo_46 : decode cX4_undo 46 = .ok (.invokevirtual 150, 3) := by decide +kernel
theorem dX4_undo_49 : decode cX4_undo 49 = .ok (.aload_n 0, 1) := by decide +kernel
theorem dX4_undo_50 : decode cX4_undo 50 = .ok (.dup, 1) := by decide +kernel
theorem dX4_undo_51 : decode cX4_undo 51 = .ok (.getfield 31, 3) := by decide +kernel
theorem dX4_undo_54 : decode cX4_undo 54 = .ok (.iconst 1, 1) := by decide +kernel
theorem dX4_undo_55 : decode cX4_undo 55 = .ok (.isub, 1) := by decide +kernel
theorem dX4_undo_56 : decode cX4_undo 56 = .ok (.putfield 31, 3) := by decide +kernel
theorem dX4_undo_59 : decode cX4_undo 59 = .ok (.aload_n 0, 1) := by decide +kernel
theorem dX4_undo_60 : decode cX4_undo 60 = .ok (.getfield 31, 3) := by decide +kernel
theorem dX4_undo_63 : decode cX4_undo 63 = .ok (.ireturn, 1) := by decide +kernel
theorem dX4_count_0 : decode cX4_count 0 = .ok (.iload_n 1, 1) := by decide +kernel
theorem dX4_count_1 : decode cX4_count 1 = .ok (.tableswitch 225 0 16 #[83, 91, 102, 110, 118, 126, 134, 143, 152, 161, 170, 179, 188, 196, 204, 212, 220], 83) := by decide +kernel
theorem dX4_count_84 : decode cX4_count 84 = .ok (.aload_n 0, 1) := by decide +kernel
theorem dX4_count_85 : decode cX4_count 85 = .ok (.getfield 10, 3) := by decide +kernel
theorem dX4_count_88 : decode cX4_count 88 = .ok (.getfield 144, 3) := by decide +kernel
theorem dX4_count_91 : decode cX4_count 91 = .ok (.ireturn, 1) := by decide +kernel
theorem dX4_count_92 : decode cX4_count 92 = .ok (.aload_n 0, 1) := by decide +kernel
theorem dX4_count_93 : decode cX4_count 93 = .ok (.getfield 10, 3) := by decide +kernel
theorem dX4_count_96 : decode cX4_count 96 = .ok (.getfield 144, 3) := by decide +kernel
theorem dX4_count_99 : decode cX4_count 99 = .ok (.bipush 90, 2) := by decide +kernel
theorem dX4_count_101 : decode cX4_count 101 = .ok (.idiv, 1) := by decide +kernel
theorem dX4_count_102 : decode cX4_count 102 = .ok (.ireturn, 1) := by decide +kernel
theorem dX4_count_103 : decode cX4_count 103 = .ok (.aload_n 0, 1) := by decide +kernel
theorem dX4_count_104 : decode cX4_count 104 = .ok (.getfield 10, 3) := by decide +kernel
theorem dX4_count_107 : decode cX4_count 107 = .ok (.getfield 56, 3) := by decide +kernel
theorem dX4_count_110 : decode cX4_count 110 = .ok (.ireturn, 1) := by decide +kernel
theorem dX4_count_111 : decode cX4_count 111 = .ok (.aload_n 0, 1) := by decide +kernel
theorem dX4_count_112 : decode cX4_count 112 = .ok (.getfield 10, 3) := by decide +kernel
theorem dX4_count_115 : decode cX4_count 115 = .ok (.getfield 38, 3) := by decide +kernel
theorem dX4_count_118 : decode cX4_count 118 = .ok (.ireturn, 1) := by decide +kernel
theorem dX4_count_119 : decode cX4_count 119 = .ok (.aload_n 0, 1) := by decide +kernel
theorem dX4_count_120 : decode cX4_count 120 = .ok (.getfield 10, 3) := by decide +kernel
theorem dX4_count_123 : decode cX4_count 123 = .ok (.getfield 48, 3) := by decide +kernel
theorem dX4_count_126 : decode cX4_count 126 = .ok (.ireturn, 1) := by decide +kernel
theorem dX4_count_127 : decode cX4_count 127 = .ok (.aload_n 0, 1) := by decide +kernel
theorem dX4_count_128 : decode cX4_count 128 = .ok (.getfield 10, 3) := by decide +kernel
theorem dX4_count_131 : decode cX4_count 131 = .ok (.getfield 73, 3) := by decide +kernel
theorem dX4_count_134 : decode cX4_count 134 = .ok (.ireturn, 1) := by decide +kernel
theorem dX4_count_135 : decode cX4_count 135 = .ok (.aload_n 0, 1) := by decide +kernel
theorem dX4_count_136 : decode cX4_count 136 = .ok (.getfield 10, 3) := by decide +kernel
theorem dX4_count_139 : decode cX4_count 139 = .ok (.iconst 0, 1) := by decide +kernel
theorem dX4_count_140 : decode cX4_count 140 = .ok (.invokevirtual 154, 3) := by decide +kernel
theorem dX4_count_143 : decode cX4_count 143 = .ok (.ireturn, 1) := by decide +kernel
theorem dX4_count_144 : decode cX4_count 144 = .ok (.aload_n 0, 1) := by decide +kernel
theorem dX4_count_145 : decode cX4_count 145 = .ok (.getfield 10, 3) := by decide +kernel
theorem dX4_count_148 : decode cX4_count 148 = .ok (.iconst 1, 1) := by decide +kernel
theorem dX4_count_149 : decode cX4_count 149 = .ok (.invokevirtual 154, 3) := by decide +kernel
theorem dX4_count_152 : decode cX4_count 152 = .ok (.ireturn, 1) := by decide +kernel
theorem dX4_count_153 : decode cX4_count 153 = .ok (.aload_n 0, 1) := by decide +kernel
theorem dX4_count_154 : decode cX4_count 154 = .ok (.getfield 10, 3) := by decide +kernel
theorem dX4_count_157 : decode cX4_count 157 = .ok (.iconst 2, 1) := by decide +kernel
theorem dX4_count_158 : decode cX4_count 158 = .ok (.invokevirtual 154, 3) := by decide +kernel
theorem dX4_count_161 : decode cX4_count 161 = .ok (.ireturn, 1) := by decide +kernel
end
section
theorem dX4_count_162 : decode cX4_count 162 = .ok (.aload_n 0, 1) := by decide +kernel
theorem dX4_count_163 : decode cX4_count 163 = .ok (.getfield 10, 3) := by decide +kernel
theorem dX4_count_166 : decode cX4_count 166 = .ok (.iconst 3, 1) := by decide +kernel
theorem dX4_count_167 : decode cX4_count 167 = .ok (.invokevirtual 154, 3) := by decide +kernel
theorem dX4_count_170 : decode cX4_count 170 = .ok (.ireturn, 1) := by decide +kernel
theorem dX4_count_171 : decode cX4_count 171 = .ok (.aload_n 0, 1) := by decide +kernel
theorem dX4_count_172 : decode cX4_count 172 = .ok (.getfield 10, 3) := by decide +kernel
theorem dX4_count_175 : decode cX4_count 175 = .ok (.iconst 4, 1) := by decide +kernel
theorem dX4_count_176 : decode cX4_count 176 = .ok (.invokevirtual 154, 3) := by decide +kernel
theorem dX4_count_179 : decode cX4_count 179 = .ok (.ireturn, 1) := by decide +kernel
theorem dX4_count_180 : decode cX4_count 180 = .ok (.aload_n 0, 1) := by decide +kernel
theorem dX4_count_181 : decode cX4_count 181 = .ok (.getfield 10, 3) := by decide +kernel
theorem dX4_count_184 : decode cX4_count 184 = .ok (.iconst 5, 1) := by decide +kernel
theorem dX4_count_185 : decode cX4_count 185 = .ok (.invokevirtual 154, 3) := by decide +kernel
theorem dX4_count_188 : decode cX4_count 188 = .ok (.ireturn, 1) := by decide +kernel
theorem dX4_count_189 : decode cX4_count 189 = .ok (.aload_n 0, 1) := by decide +kernel
theorem dX4_count_190 : decode cX4_count 190 = .ok (.getfield 10, 3) := by decide +kernel
theorem dX4_count_193 : decode cX4_count 193 = .ok (.invokevirtual 157, 3) := by decide +kernel
theorem dX4_count_196 : decode cX4_count 196 = .ok (.ireturn, 1) := by decide +kernel
theorem dX4_count_197 : decode cX4_count 197 = .ok (.aload_n 0, 1) := by decide +kernel
theorem dX4_count_198 : decode cX4_count 198 = .ok (.getfield 10, 3) := by decide +kernel
theorem dX4_count_201 : decode cX4_count 201 = .ok (.getfield 160, 3) := by decide +kernel
theorem dX4_count_204 : decode cX4_count 204 = .ok (.ireturn, 1) := by decide +kernel
theorem dX4_count_205 : decode cX4_count 205 = .ok (.aload_n 0, 1) := by decide +kernel
theorem dX4_count_206 : decode cX4_count 206 = .ok (.getfield 10, 3) := by decide +kernel
theorem dX4_count_209 : decode cX4_count 209 = .ok (.getfield 163, 3) := by decide +kernel
theorem dX4_count_212 : decode cX4_count 212 = .ok (.ireturn, 1) := by decide +kernel
theorem dX4_count_213 : decode cX4_count 213 = .ok (.aload_n 0, 1) := by decide +kernel
theorem dX4_count_214 : decode cX4_count 214 = .ok (.getfield 10, 3) := by decide +kernel
theorem dX4_count_217 : decode cX4_count 217 = .ok (.invokevirtual 166, 3) := by decide +kernel
theorem dX4_count_220 : decode cX4_count 220 = .ok (.ireturn, 1) := by decide +kernel
theorem dX4_count_221 : decode cX4_count 221 = .ok (.aload_n 0, 1) := by decide +kernel
theorem dX4_count_222 : decode cX4_count 222 = .ok (.getfield 31, 3) := by decide +kernel
theorem dX4_count_225 : decode cX4_count 225 = .ok (.ireturn, 1) := by decide +kernel
theorem dX4_count_226 : decode cX4_count 226 = .ok (.sipush (-10001), 3) := by decide +kernel
theorem dX4_count_229 : decode cX4_count 229 = .ok (.ireturn, 1) := by decide +kernel
theorem dX4_asset_0 : decode cX4_asset 0 = .ok (.aload_n 0, 1) := by decide +kernel
theorem dX4_asset_1 : decode cX4_asset 1 = .ok (.getfield 10, 3) := by decide +kernel
theorem dX4_asset_4 : decode cX4_asset 4 = .ok (.iload_n 1, 1) := by decide +kernel
theorem dX4_asset_5 : decode cX4_asset 5 = .ok (.invokevirtual 70, 3) := by decide +kernel
theorem dX4_asset_8 : decode cX4_asset 8 = .ok (.ifCond .ne 7, 3) := by decide +kernel
theorem dX4_asset_11 : decode cX4_asset 11 = .ok (.sipush (-10001), 3) := by decide +kernel
theorem dX4_asset_14 : decode cX4_asset 14 = .ok (.ireturn, 1) := by decide +kernel
theorem dX4_asset_15 : decode cX4_asset 15 = .ok (.aload_n 0, 1) := by decide +kernel
theorem dX4_asset_16 : decode cX4_asset 16 = .ok (.getfield 10, 3) := by decide +kernel
theorem dX4_asset_19 : decode cX4_asset 19 = .ok (.getfield 169, 3) := by decide +kernel
theorem dX4_asset_22 : decode cX4_asset 22 = .ok (.iload_n 1, 1) := by decide +kernel
theorem dX4_asset_23 : decode cX4_asset 23 = .ok (.aaload, 1) := by decide +kernel
theorem dX4_asset_24 : decode cX4_asset 24 = .ok (.astore_n 3, 1) := by decide +kernel
theorem dX4_asset_25 : decode cX4_asset 25 = .ok (.iload_n 2, 1) := by decide +kernel
theorem dX4_asset_26 : decode cX4_asset 26 = .ok (.tableswitch 67 0 4 #[34, 39, 44, 49, 58], 34) := by decide +kernel
theorem dX4_asset_60 : decode cX4_asset 60 = .ok (.aload_n 3, 1) := by decide +kernel
theorem dX4_asset_61 : decode cX4_asset 61 = .ok (.getfield 173, 3) := by decide +kernel
theorem dX4_asset_64 : decode cX4_asset 64 = .ok (.ireturn, 1) := by decide +kernel
theorem dX4_asset_65 : decode cX4_asset 65 = .ok (.aload_n 3, 1) := by decide +kernel
theorem dX4_asset_66 : decode cX4_asset 66 = .ok (.getfield 178, 3) := by decide +kernel
theorem dX4_asset_69 : decode cX4_asset 69 = .ok (.ireturn, 1) := by decide +kernel
theorem dX4_asset_70 : decode cX4_asset 70 = .ok (.aload_n 3, 1) := by decide +kernel
theorem dX4_asset_71 : decode cX4_asset 71 = .ok (.getfield 181, 3) := by decide +kernel
theorem dX4_asset_74 : decode cX4_asset 74 = .ok (.ireturn, 1) := by decide +kernel
theorem dX4_asset_75 : decode cX4_asset 75 = .ok (.aload_n 0, 1) := by decide +kernel
theorem dX4_asset_76 : decode cX4_asset 76 = .ok (.getfield 10, 3) := by decide +kernel
theorem dX4_asset_79 : decode cX4_asset 79 = .ok (.iload_n 1, 1) := by decide +kernel
theorem dX4_asset_80 : decode cX4_asset 80 = .ok (.invokevirtual 184, 3) := by decide +kernel
theorem dX4_asset_83 : decode cX4_asset 83 = .ok (.ireturn, 1) := by decide +kernel
theorem dX4_asset_84 : decode cX4_asset 84 = .ok (.aload_n 0, 1) := by decide +kernel
theorem dX4_asset_85 : decode cX4_asset 85 = .ok (.getfield 10, 3) := by decide +kernel
theorem dX4_asset_88 : decode cX4_asset 88 = .ok (.iload_n 1, 1) := by decide +kernel
theorem dX4_asset_89 : decode cX4_asset 89 = .ok (.invokevirtual 187, 3) := by decide +kernel
theorem dX4_asset_92 : decode cX4_asset 92 = .ok (.ireturn, 1) := by decide +kernel
theorem dX4_asset_93 : decode cX4_asset 93 = .ok (.sipush (-10001), 3) := by decide +kernel
theorem dX4_asset_96 : decode cX4_asset 96 = .ok (.ireturn, 1) := by decide +kernel
theorem dX4_hunter_0 : decode cX4_hunter 0 = .ok (.aload_n 0, 1) := by decide +kernel
theorem dX4_hunter_1 : decode cX4_hunter 1 = .ok (.getfield 10, 3) := by decide +kernel
theorem dX4_hunter_4 : decode cX4_hunter 4 = .ok (.iload_n 1, 1) := by decide +kernel
theorem dX4_hunter_5 : decode cX4_hunter 5 = .ok (.invokevirtual 66, 3) := by decide +kernel
theorem dX4_hunter_8 : decode cX4_hunter 8 = .ok (.ifCond .ne 7, 3) := by decide +kernel
theorem dX4_hunter_11 : decode cX4_hunter 11 = .ok (.sipush (-10001), 3) := by decide +kernel
theorem dX4_hunter_14 : decode cX4_hunter 14 = .ok (.ireturn, 1) := by decide +kernel
theorem dX4_hunter_15 : decode cX4_hunter 15 = .ok (.aload_n 0, 1) := by decide +kernel
theorem dX4_hunter_16 : decode cX4_hunter 16 = .ok (.getfield 10, 3) := by decide +kernel
theorem dX4_hunter_19 : decode cX4_hunter 19 = .ok (.getfield 190, 3) := by decide +kernel
theorem dX4_hunter_22 : decode cX4_hunter 22 = .ok (.iload_n 1, 1) := by decide +kernel
theorem dX4_hunter_23 : decode cX4_hunter 23 = .ok (.aaload, 1) := by decide +kernel
theorem dX4_hunter_24 : decode cX4_hunter 24 = .ok (.astore_n 3, 1) := by decide +kernel
theorem dX4_hunter_25 : decode cX4_hunter 25 = .ok (.iload_n 2, 1) := by decide +kernel
theorem dX4_hunter_26 : decode cX4_hunter 26 = .ok (.tableswitch 76 0 5 #[38, 47, 52, 61, 66, 71], 38) := by decide +kernel
theorem dX4_hunter_64 : decode cX4_hunter 64 = .ok (.aload_n 0, 1) := by decide +kernel
theorem dX4_hunter_65 : decode cX4_hunter 65 = .ok (.getfield 10, 3) := by decide +kernel
theorem dX4_hunter_68 : decode cX4_hunter 68 = .ok (.iload_n 1, 1) := by decide +kernel
theorem dX4_hunter_69 : decode cX4_hunter 69 = .ok (.invokevirtual 194, 3) := by decide +kernel
theorem dX4_hunter_72 : decode cX4_hunter 72 = .ok (.ireturn, 1) := by decide +kernel
theorem dX4_hunter_73 : decode cX4_hunter 73 = .ok (.aload_n 3, 1) := by decide +kernel
theorem dX4_hunter_74 : decode cX4_hunter 74 = .ok (.getfield 197, 3) := by decide +kernel
theorem dX4_hunter_77 : decode cX4_hunter 77 = .ok (.ireturn, 1) := by decide +kernel
theorem dX4_hunter_78 : decode cX4_hunter 78 = .ok (.aload_n 0, 1) := by decide +kernel
theorem dX4_hunter_79 : decode cX4_hunter 79 = .ok (.getfield 10, 3) := by decide +kernel
theorem dX4_hunter_82 : decode cX4_hunter 82 = .ok (.iload_n 1, 1) := by decide +kernel
theorem dX4_hunter_83 : decode cX4_hunter 83 = .ok (.invokevirtual 202, 3) := by decide +kernel
theorem dX4_hunter_86 : decode cX4_hunter 86 = .ok (.ireturn, 1) := by decide +kernel
theorem dX4_hunter_87 : decode cX4_hunter 87 = .ok (.aload_n 3, 1) := by decide +kernel
theorem dX4_hunter_88 : decode cX4_hunter 88 = .ok (.getfield 205, 3) := by decide +kernel
theorem dX4_hunter_91 : decode cX4_hunter 91 = .ok (.ireturn, 1) := by decide +kernel
theorem dX4_hunter_92 : decode cX4_hunter 92 = .ok (.aload_n 3, 1) := by decide +kernel
theorem dX4_hunter_93 : decode cX4_hunter 93 = .ok (.getfield 208, 3) := by decide +kernel
theorem dX4_hunter_96 : decode cX4_hunter 96 = .ok (.ireturn, 1) := by decide +kernel
theorem dX4_hunter_97 : decode cX4_hunter 97 = .ok (.aload_n 3, 1) := by decide +kernel
theorem dX4_hunter_98 : decode cX4_hunter 98 = .ok (.getfield 211, 3) := by decide +kernel
theorem dX4_hunter_101 : decode cX4_hunter 101 = .ok (.ireturn, 1) := by decide +kernel
theorem dX4_hunter_102 : decode cX4_hunter 102 = .ok (.sipush (-10001), 3) := by decide +kernel
theorem dX4_hunter_105 : decode cX4_hunter 105 = .ok (.ireturn, 1) := by decide +kernel
theorem dX4_reportOf_0 : decode cX4_reportOf 0 = .ok (.aload_n 0, 1) := by decide +kernel
theorem dX4_reportOf_1 : decode cX4_reportOf 1 = .ok (.getfield 10, 3) := by decide +kernel
theorem dX4_reportOf_4 : decode cX4_reportOf 4 = .ok (.iload_n 1, 1) := by decide +kernel
theorem dX4_reportOf_5 : decode cX4_reportOf 5 = .ok (.invokevirtual 80, 3) := by decide +kernel
theorem dX4_reportOf_8 : decode cX4_reportOf 8 = .ok (.ifCond .ne 7, 3) := by decide +kernel
theorem dX4_reportOf_11 : decode cX4_reportOf 11 = .ok (.sipush (-10001), 3) := by decide +kernel
theorem dX4_reportOf_14 : decode cX4_reportOf 14 = .ok (.ireturn, 1) := by decide +kernel
theorem dX4_reportOf_15 : decode cX4_reportOf 15 = .ok (.aload_n 0, 1) := by decide +kernel
theorem dX4_reportOf_16 : decode cX4_reportOf 16 = .ok (.getfield 10, 3) := by decide +kernel
theorem dX4_reportOf_19 : decode cX4_reportOf 19 = .ok (.getfield 87, 3) := by decide +kernel
theorem dX4_reportOf_22 : decode cX4_reportOf 22 = .ok (.iload_n 1, 1) := by decide +kernel
theorem dX4_reportOf_23 : decode cX4_reportOf 23 = .ok (.aaload, 1) := by decide +kernel
theorem dX4_reportOf_24 : decode cX4_reportOf 24 = .ok (.astore_n 3, 1) := by decide +kernel
theorem dX4_reportOf_25 : decode cX4_reportOf 25 = .ok (.iload_n 2, 1) := by decide +kernel
theorem dX4_reportOf_26 : decode cX4_reportOf 26 = .ok (.tableswitch 179 0 12 #[66, 71, 76, 81, 86, 104, 109, 118, 140, 145, 150, 158, 166], 66) := by decide +kernel
theorem dX4_reportOf_92 : decode cX4_reportOf 92 = .ok (.aload_n 3, 1) := by decide +kernel
theorem dX4_reportOf_93 : decode cX4_reportOf 93 = .ok (.getfield 214, 3) := by decide +kernel
theorem dX4_reportOf_96 : decode cX4_reportOf 96 = .ok (.ireturn, 1) := by decide +kernel
theorem dX4_reportOf_97 : decode cX4_reportOf 97 = .ok (.aload_n 3, 1) := by decide +kernel
theorem dX4_reportOf_98 : decode cX4_reportOf 98 = .ok (.getfield 217, 3) := by decide +kernel
theorem dX4_reportOf_101 : decode cX4_reportOf 101 = .ok (.ireturn, 1) := by decide +kernel
theorem dX4_reportOf_102 : decode cX4_reportOf 102 = .ok (.aload_n 3, 1) := by decide +kernel
theorem dX4_reportOf_103 : decode cX4_reportOf 103 = .ok (.getfield 220, 3) := by decide +kernel
theorem dX4_reportOf_106 : decode cX4_reportOf 106 = .ok (.ireturn, 1) := by decide +kernel
theorem dX4_reportOf_107 : decode cX4_reportOf 107 = .ok (.aload_n 3, 1) := by decide +kernel
theorem dX4_reportOf_108 : decode cX4_reportOf 108 = .ok (.getfield 91, 3) := by decide +kernel
theorem dX4_reportOf_111 : decode cX4_reportOf 111 = .ok (.ireturn, 1) := by decide +kernel
theorem dX4_reportOf_112 : decode cX4_reportOf 112 = .ok (.aload_n 3, 1) := by decide +kernel
theorem dX4_reportOf_113 : decode cX4_reportOf 113 = .ok (.invokevirtual 223, 3) := by decide +kernel
theorem dX4_reportOf_116 : decode cX4_reportOf 116 = .ok (.ifCond .eq 10, 3) := by decide +kernel
theorem dX4_reportOf_119 : decode cX4_reportOf 119 = .ok (.aload_n 3, 1) := by decide +kernel
theorem dX4_reportOf_120 : decode cX4_reportOf 120 = .ok (.getfield 99, 3) := by decide +kernel
theorem dX4_reportOf_123 : decode cX4_reportOf 123 = .ok (.goto 6, 3) := by decide +kernel
theorem dX4_reportOf_126 : decode cX4_reportOf 126 = .ok (.sipush (-10009), 3) := by decide +kernel
theorem dX4_reportOf_129 : decode cX4_reportOf 129 = .ok (.ireturn, 1) := by decide +kernel
theorem dX4_reportOf_130 : decode cX4_reportOf 130 = .ok (.aload_n 3, 1) := by decide +kernel
theorem dX4_reportOf_131 : decode cX4_reportOf 131 = .ok (.getfield 96, 3) := by decide +kernel
theorem dX4_reportOf_134 : decode cX4_reportOf 134 = .ok (.ireturn, 1) := by decide +kernel
theorem dX4_reportOf_135 : decode cX4_reportOf 135 = .ok (.aload_n 0, 1) := by decide +kernel
theorem dX4_reportOf_136 : decode cX4_reportOf 136 = .ok (.getfield 10, 3) := by decide +kernel
theorem dX4_reportOf_139 : decode cX4_reportOf 139 = .ok (.iload_n 1, 1) := by decide +kernel
theorem dX4_reportOf_140 : decode cX4_reportOf 140 = .ok (.invokevirtual 226, 3) := by decide +kernel
theorem dX4_reportOf_143 : decode cX4_reportOf 143 = .ok (.ireturn, 1) := by decide +kernel
theorem dX4_reportOf_144 : decode cX4_reportOf 144 = .ok (.aload_n 3, 1) := by decide +kernel
theorem dX4_reportOf_145 : decode cX4_reportOf 145 = .ok (.invokevirtual 223, 3) := by decide +kernel
theorem dX4_reportOf_148 : decode cX4_reportOf 148 = .ok (.ifCond .eq 14, 3) := by decide +kernel
theorem dX4_reportOf_151 : decode cX4_reportOf 151 = .ok (.aload_n 0, 1) := by decide +kernel
theorem dX4_reportOf_152 : decode cX4_reportOf 152 = .ok (.getfield 10, 3) := by decide +kernel
theorem dX4_reportOf_155 : decode cX4_reportOf 155 = .ok (.aload_n 3, 1) := by decide +kernel
theorem dX4_reportOf_156 : decode cX4_reportOf 156 = .ok (.invokevirtual 102, 3) := by decide +kernel
theorem dX4_reportOf_159 : decode cX4_reportOf 159 = .ok (.goto 6, 3) := by decide +kernel
theorem dX4_reportOf_162 : decode cX4_reportOf 162 = .ok (.sipush (-10009), 3) := by decide +kernel
theorem dX4_reportOf_165 : decode cX4_reportOf 165 = .ok (.ireturn, 1) := by decide +kernel
theorem dX4_reportOf_166 : decode cX4_reportOf 166 = .ok (.aload_n 3, 1) := by decide +kernel
theorem dX4_reportOf_167 : decode cX4_reportOf 167 = .ok (.getfield 110, 3) := by decide +kernel
theorem dX4_reportOf_170 : decode cX4_reportOf 170 = .ok (.ireturn, 1) := by decide +kernel
theorem dX4_reportOf_171 : decode cX4_reportOf 171 = .ok (.aload_n 3, 1) := by decide +kernel
theorem dX4_reportOf_172 : decode cX4_reportOf 172 = .ok (.getfield 229, 3) := by decide +kernel
theorem dX4_reportOf_175 : decode cX4_reportOf 175 = .ok (.ireturn, 1) := by decide +kernel
theorem dX4_reportOf_176 : decode cX4_reportOf 176 = .ok (.aload_n 3, 1) := by decide +kernel
theorem dX4_reportOf_177 : decode cX4_reportOf 177 = .ok (.getfield 232, 3) := by decide +kernel
theorem dX4_reportOf_180 : decode cX4_reportOf 180 = .ok (.invokestatic 235, 3) := by decide +kernel
theorem dX4_reportOf_183 : decode cX4_reportOf 183 = .ok (.ireturn, 1) := by decide +kernel
theorem dX4_reportOf_184 : decode cX4_reportOf 184 = .ok (.aload_n 3, 1) := by decide +kernel
theorem dX4_reportOf_185 : decode cX4_reportOf 185 = .ok (.getfield 240, 3) := by decide +kernel
theorem dX4_reportOf_188 : decode cX4_reportOf 188 = .ok (.invokestatic 235, 3) := by decide +kernel
theorem dX4_reportOf_191 : decode cX4_reportOf 191 = .ok (.ireturn, 1) := by decide +kernel
theorem dX4_reportOf_192 : decode cX4_reportOf 192 = .ok (.aload_n 3, 1) := by decide +kernel
theorem dX4_reportOf_193 : decode cX4_reportOf 193 = .ok (.getfield 129, 3) := by decide +kernel
theorem dX4_reportOf_196 : decode cX4_reportOf 196 = .ok (.ifCond .eq 7, 3) := by decide +kernel
theorem dX4_reportOf_199 : decode cX4_reportOf 199 = .ok (.iconst 1, 1) := by decide +kernel
theorem dX4_reportOf_200 : decode cX4_reportOf 200 = .ok (.goto 4, 3) := by decide +kernel
theorem dX4_reportOf_203 : decode cX4_reportOf 203 = .ok (.iconst 0, 1) := by decide +kernel
theorem dX4_reportOf_204 : decode cX4_reportOf 204 = .ok (.ireturn, 1) := by decide +kernel
theorem dX4_reportOf_205 : decode cX4_reportOf 205 = .ok (.sipush (-10001), 3) := by decide +kernel
theorem dX4_reportOf_208 : decode cX4_reportOf 208 = .ok (.ireturn, 1) := by decide +kernel
theorem dX4_original_0 : decode cX4_original 0 = .ok (.aload_n 0, 1) := by decide +kernel
theorem dX4_original_1 : decode cX4_original 1 = .ok (.getfield 10, 3) := by decide +kernel
theorem dX4_original_4 : decode cX4_original 4 = .ok (.iload_n 1, 1) := by decide +kernel
theorem dX4_original_5 : decode cX4_original 5 = .ok (.invokevirtual 80, 3) := by decide +kernel
theorem dX4_original_8 : decode cX4_original 8 = .ok (.ifCond .ne 7, 3) := by decide +kernel
theorem dX4_original_11 : decode cX4_original 11 = .ok (.sipush (-10001), 3) := by decide +kernel
theorem dX4_original_14 : decode cX4_original 14 = .ok (.ireturn, 1) := by decide +kernel
theorem dX4_original_15 : decode cX4_original 15 = .ok (.aload_n 0, 1) := by decide +kernel
theorem dX4_original_16 : decode cX4_original 16 = .ok (.getfield 10, 3) := by decide +kernel
theorem dX4_original_19 : decode cX4_original 19 = .ok (.iload_n 1, 1) := by decide +kernel
theorem dX4_original_20 : decode cX4_original 20 = .ok (.invokevirtual 83, 3) := by decide +kernel
theorem dX4_original_23 : decode cX4_original 23 = .ok (.ireturn, 1) := by decide +kernel
theorem dX4_lack_0 : decode cX4_lack 0 = .ok (.iconst 0, 1) := by decide +kernel
theorem dX4_lack_1 : decode cX4_lack 1 = .ok (.istore_n 1, 1) := by decide +kernel
theorem dX4_lack_2 : decode cX4_lack 2 = .ok (.iconst 0, 1) := by decide +kernel
theorem dX4_lack_3 : decode cX4_lack 3 = .ok (.istore_n 2, 1) := by decide +kernel
theorem dX4_lack_4 : decode cX4_lack 4 = .ok (.iload_n 2, 1) := by decide +kernel
theorem dX4_lack_5 : decode cX4_lack 5 = .ok (.aload_n 0, 1) := by decide +kernel
theorem dX4_lack_6 : decode cX4_lack 6 = .ok (.getfield 10, 3) := by decide +kernel
theorem dX4_lack_9 : decode cX4_lack 9 = .ok (.getfield 38, 3) := by decide +kernel
theorem dX4_lack_12 : decode cX4_lack 12 = .ok (.if_icmp .ge 37, 3) := by decide +kernel
theorem dX4_lack_15 : decode cX4_lack 15 = .ok (.iload_n 1, 1) := by decide +kernel
theorem dX4_lack_16 : decode cX4_lack 16 = .ok (.iconst 0, 1) := by decide +kernel
theorem dX4_lack_17 : decode cX4_lack 17 = .ok (.aload_n 0, 1) := by decide +kernel
theorem dX4_lack_18 : decode cX4_lack 18 = .ok (.getfield 10, 3) := by decide +kernel
theorem dX4_lack_21 : decode cX4_lack 21 = .ok (.iload_n 2, 1) := by decide +kernel
theorem dX4_lack_22 : decode cX4_lack 22 = .ok (.invokevirtual 187, 3) := by decide +kernel
theorem dX4_lack_25 : decode cX4_lack 25 = .ok (.aload_n 0, 1) := by decide +kernel
theorem dX4_lack_26 : decode cX4_lack 26 = .ok (.getfield 10, 3) := by decide +kernel
theorem dX4_lack_29 : decode cX4_lack 29 = .ok (.getfield 169, 3) := by decide +kernel
theorem dX4_lack_32 : decode cX4_lack 32 = .ok (.iload_n 2, 1) := by decide +kernel
theorem dX4_lack_33 : decode cX4_lack 33 = .ok (.aaload, 1) := by decide +kernel
theorem dX4_lack_34 : decode cX4_lack 34 = .ok (.getfield 181, 3) := by decide +kernel
theorem dX4_lack_37 : decode cX4_lack 37 = .ok (.isub, 1) := by decide +kernel
theorem dX4_lack_38 : decode cX4_lack 38 = .ok (.invokestatic 243, 3) := by decide +kernel
theorem dX4_lack_41 : decode cX4_lack 41 = .ok (.iadd, 1) := by decide +kernel
theorem dX4_lack_42 : decode cX4_lack 42 = .ok (.istore_n 1, 1) := by decide +kernel
theorem dX4_lack_43 : decode cX4_lack 43 = .ok (.iinc 2 1, 3) := by decide +kernel
theorem dX4_lack_46 : decode cX4_lack 46 = .ok (.goto (-42), 3) := by decide +kernel
theorem dX4_lack_49 : decode cX4_lack 49 = .ok (.iconst 0, 1) := by decide +kernel
theorem dX4_lack_50 : decode cX4_lack 50 = .ok (.iload_n 1, 1) := by decide +kernel
theorem dX4_lack_51 : decode cX4_lack 51 = .ok (.aload_n 0, 1) := by decide +kernel
theorem dX4_lack_52 : decode cX4_lack 52 = .ok (.getfield 10, 3) := by decide +kernel
theorem dX4_lack_55 : decode cX4_lack 55 = .ok (.getfield 56, 3) := by decide +kernel
theorem dX4_lack_58 : decode cX4_lack 58 = .ok (.isub, 1) := by decide +kernel
theorem dX4_lack_59 : decode cX4_lack 59 = .ok (.invokestatic 243, 3) := by decide +kernel
theorem dX4_lack_62 : decode cX4_lack 62 = .ok (.ireturn, 1) := by decide +kernel
theorem dX4_best_0 : decode cX4_best 0 = .ok (.iload_n 1, 1) := by decide +kernel
theorem dX4_best_1 : decode cX4_best 1 = .ok (.ifCond .ge 7, 3) := by decide +kernel
theorem dX4_best_4 : decode cX4_best 4 = .ok (.sipush (-10001), 3) := by decide +kernel
theorem dX4_best_7 : decode cX4_best 7 = .ok (.ireturn, 1) := by decide +kernel
theorem dX4_best_8 : decode cX4_best 8 = .ok (.iconst 0, 1) := by decide +kernel
theorem dX4_best_9 : decode cX4_best 9 = .ok (.istore_n 2, 1) := by decide +kernel
theorem dX4_best_10 : decode cX4_best 10 = .ok (.iload_n 2, 1) := by decide +kernel
theorem dX4_best_11 : decode cX4_best 11 = .ok (.aload_n 0, 1) := by decide +kernel
theorem dX4_best_12 : decode cX4_best 12 = .ok (.getfield 10, 3) := by decide +kernel
theorem dX4_best_15 : decode cX4_best 15 = .ok (.getfield 48, 3) := by decide +kernel
theorem dX4_best_18 : decode cX4_best 18 = .ok (.if_icmp .ge 23, 3) := by decide +kernel
theorem dX4_best_21 : decode cX4_best 21 = .ok (.aload_n 0, 1) := by decide +kernel
theorem dX4_best_22 : decode cX4_best 22 = .ok (.getfield 23, 3) := by decide +kernel
theorem dX4_best_25 : decode cX4_best 25 = .ok (.iload_n 2, 1) := by decide +kernel
theorem dX4_best_26 : decode cX4_best 26 = .ok (.aload_n 0, 1) := by decide +kernel
theorem dX4_best_27 : decode cX4_best 27 = .ok (.getfield 10, 3) := by decide +kernel
theorem dX4_best_30 : decode cX4_best 30 = .ok (.iload_n 2, 1) := by decide +kernel
theorem dX4_best_31 : decode cX4_best 31 = .ok (.invokevirtual 202, 3) := by decide +kernel
theorem dX4_best_34 : decode cX4_best 34 = .ok (.iastore, 1) := by decide +kernel
theorem dX4_best_35 : decode cX4_best 35 = .ok (.iinc 2 1, 3) := by decide +kernel
theorem dX4_best_38 : decode cX4_best 38 = .ok (.goto (-28), 3) := by decide +kernel
theorem dX4_best_41 : decode cX4_best 41 = .ok (.iconst 0, 1) := by decide +kernel
theorem dX4_best_42 : decode cX4_best 42 = .ok (.istore_n 2, 1) := by decide +kernel
theorem dX4_best_43 : decode cX4_best 43 = .ok (.iload_n 2, 1) := by decide +kernel
theorem dX4_best_44 : decode cX4_best 44 = .ok (.aload_n 0, 1) := by decide +kernel
theorem dX4_best_45 : decode cX4_best 45 = .ok (.getfield 10, 3) := by decide +kernel
theorem dX4_best_48 : decode cX4_best 48 = .ok (.getfield 48, 3) := by decide +kernel
theorem dX4_best_51 : decode cX4_best 51 = .ok (.if_icmp .ge 20, 3) := by decide +kernel
theorem dX4_best_54 : decode cX4_best 54 = .ok (.aload_n 0, 1) := by decide +kernel
theorem dX4_best_55 : decode cX4_best 55 = .ok (.iload_n 2, 1) := by decide +kernel
theorem dX4_best_56 : decode cX4_best 56 = .ok (.invokevirtual 248, 3) := by decide +kernel
theorem dX4_best_59 : decode cX4_best 59 = .ok (.iload_n 1, 1) := by decide +kernel
theorem dX4_best_60 : decode cX4_best 60 = .ok (.if_icmp .ne 5, 3) := by decide +kernel
theorem dX4_best_63 : decode cX4_best 63 = .ok (.iload_n 2, 1) := by decide +kernel
theorem dX4_best_64 : decode cX4_best 64 = .ok (.ireturn, 1) := by decide +kernel
theorem dX4_best_65 : decode cX4_best 65 = .ok (.iinc 2 1, 3) := by decide +kernel
theorem dX4_best_68 : decode cX4_best 68 = .ok (.goto (-25), 3) := by decide +kernel
theorem dX4_best_71 : decode cX4_best 71 = .ok (.sipush (-10009), 3) := by decide +kernel
theorem dX4_best_74 : decode cX4_best 74 = .ok (.ireturn, 1) := by decide +kernel
theorem dX4_paidIn_0 : decode cX4_paidIn 0 = .ok (.aload_n 0, 1) := by decide +kernel
theorem dX4_paidIn_1 : decode cX4_paidIn 1 = .ok (.getfield 10, 3) := by decide +kernel
theorem dX4_paidIn_4 : decode cX4_paidIn 4 = .ok (.iload_n 1, 1) := by decide +kernel
theorem dX4_paidIn_5 : decode cX4_paidIn 5 = .ok (.invokevirtual 80, 3) := by decide +kernel
theorem dX4_paidIn_8 : decode cX4_paidIn 8 = .ok (.ifCond .ne 7, 3) := by decide +kernel
theorem dX4_paidIn_11 : decode cX4_paidIn 11 = .ok (.sipush (-10001), 3) := by decide +kernel
theorem dX4_paidIn_14 : decode cX4_paidIn 14 = .ok (.ireturn, 1) := by decide +kernel
theorem dX4_paidIn_15 : decode cX4_paidIn 15 = .ok (.aload_n 0, 1) := by decide +kernel
theorem dX4_paidIn_16 : decode cX4_paidIn 16 = .ok (.getfield 10, 3) := by decide +kernel
theorem dX4_paidIn_19 : decode cX4_paidIn 19 = .ok (.getfield 87, 3) := by decide +kernel
theorem dX4_paidIn_22 : decode cX4_paidIn 22 = .ok (.iload_n 1, 1) := by decide +kernel
theorem dX4_paidIn_23 : decode cX4_paidIn 23 = .ok (.aaload, 1) := by decide +kernel
theorem dX4_paidIn_24 : decode cX4_paidIn 24 = .ok (.getfield 91, 3) := by decide +kernel
theorem dX4_paidIn_27 : decode cX4_paidIn 27 = .ok (.iconst 2, 1) := by decide +kernel
theorem dX4_paidIn_28 : decode cX4_paidIn 28 = .ok (.if_icmp .eq 7, 3) := by decide +kernel
theorem dX4_paidIn_31 : decode cX4_paidIn 31 = .ok (.sipush (-10002), 3) := by decide +kernel
theorem dX4_paidIn_34 : decode cX4_paidIn 34 = .ok (.ireturn, 1) := by decide +kernel
theorem dX4_paidIn_35 : decode cX4_paidIn 35 = .ok (.aload_n 0, 1) := by decide +kernel
theorem dX4_paidIn_36 : decode cX4_paidIn 36 = .ok (.getfield 16, 3) := by decide +kernel
theorem dX4_paidIn_39 : decode cX4_paidIn 39 = .ok (.aload_n 0, 1) := by decide +kernel
theorem dX4_paidIn_40 : decode cX4_paidIn 40 = .ok (.getfield 10, 3) := by decide +kernel
theorem dX4_paidIn_43 : decode cX4_paidIn 43 = .ok (.invokevirtual 150, 3) := by decide +kernel
theorem dX4_paidIn_46 : decode cX4_paidIn 46 = .ok (.aload_n 0, 1) := by decide +kernel
theorem dX4_paidIn_47 : decode cX4_paidIn 47 = .ok (.getfield 10, 3) := by decide +kernel
theorem dX4_paidIn_50 : decode cX4_paidIn 50 = .ok (.getfield 144, 3) := by decide +kernel
theorem dX4_paidIn_53 : decode cX4_paidIn 53 = .ok (.bipush 90, 2) := by decide +kernel
theorem dX4_paidIn_55 : decode cX4_paidIn 55 = .ok (.idiv, 1) := by decide +kernel
theorem dX4_paidIn_56 : decode cX4_paidIn 56 = .ok (.istore_n 2, 1) := by decide +kernel
theorem dX4_paidIn_57 : decode cX4_paidIn 57 = .ok (.iconst 1, 1) := by decide +kernel
theorem dX4_paidIn_58 : decode cX4_paidIn 58 = .ok (.istore_n 3, 1) := by decide +kernel
theorem dX4_paidIn_59 : decode cX4_paidIn 59 = .ok (.iload_n 3, 1) := by decide +kernel
theorem dX4_paidIn_60 : decode cX4_paidIn 60 = .ok (.bipush 12, 2) := by decide +kernel
theorem dX4_paidIn_62 : decode cX4_paidIn 62 = .ok (.if_icmp .gt 48, 3) := by decide +kernel
theorem dX4_paidIn_65 : decode cX4_paidIn 65 = .ok (.aload_n 0, 1) := by decide +kernel
theorem dX4_paidIn_66 : decode cX4_paidIn 66 = .ok (.getfield 16, 3) := by decide +kernel
theorem dX4_paidIn_69 : decode cX4_paidIn 69 = .ok (.invokevirtual 147, 3) := by decide +kernel
theorem dX4_paidIn_72 : decode cX4_paidIn 72 = .ok (.pop, 1) := by decide +kernel
theorem dX4_paidIn_73 : decode cX4_paidIn 73 = .ok (.aload_n 0, 1) := by decide +kernel
theorem dX4_paidIn_74 : decode cX4_paidIn 74 = .ok (.getfield 16, 3) := by decide +kernel
theorem dX4_paidIn_77 : decode cX4_paidIn 77 = .ok (.getfield 87, 3) := by decide +kernel
theorem dX4_paidIn_80 : decode cX4_paidIn 80 = .ok (.iload_n 1, 1) := by decide +kernel
theorem dX4_paidIn_81 : decode cX4_paidIn 81 = .ok (.aaload, 1) := by decide +kernel
theorem dX4_paidIn_82 : decode cX4_paidIn 82 = .ok (.getfield 91, 3) := by decide +kernel
theorem dX4_paidIn_85 : decode cX4_paidIn 85 = .ok (.iconst 3, 1) := by decide +kernel
theorem dX4_paidIn_86 : decode cX4_paidIn 86 = .ok (.if_icmp .ne 18, 3) := by decide +kernel
theorem dX4_paidIn_89 : decode cX4_paidIn 89 = .ok (.iload_n 2, 1) := by decide +kernel
theorem dX4_paidIn_90 : decode cX4_paidIn 90 = .ok (.iload_n 3, 1) := by decide +kernel
theorem dX4_paidIn_91 : decode cX4_paidIn 91 = .ok (.iadd, 1) := by decide +kernel
theorem dX4_paidIn_92 : decode cX4_paidIn 92 = .ok (.bipush 90, 2) := by decide +kernel
theorem dX4_paidIn_94 : decode cX4_paidIn 94 = .ok (.imul, 1) := by decide +kernel
theorem dX4_paidIn_95 : decode cX4_paidIn 95 = .ok (.aload_n 0, 1) := by decide +kernel
theorem dX4_paidIn_96 : decode cX4_paidIn 96 = .ok (.getfield 10, 3) := by decide +kernel
theorem dX4_paidIn_99 : decode cX4_paidIn 99 = .ok (.getfield 144, 3) := by decide +kernel
theorem dX4_paidIn_102 : decode cX4_paidIn 102 = .ok (.isub, 1) := by decide +kernel
theorem dX4_paidIn_103 : decode cX4_paidIn 103 = .ok (.ireturn, 1) := by decide +kernel
theorem dX4_paidIn_104 : decode cX4_paidIn 104 = .ok (.iinc 3 1, 3) := by decide +kernel
theorem dX4_paidIn_107 : decode cX4_paidIn 107 = .ok (.goto (-48), 3) := by decide +kernel
theorem dX4_paidIn_110 : decode cX4_paidIn 110 = .ok (.sipush (-10009), 3) := by decide +kernel
theorem dX4_paidIn_113 : decode cX4_paidIn 113 = .ok (.ireturn, 1) := by decide +kernel
theorem dX4_isOutside_0 : decode cX4_isOutside 0 = .ok (.iload_n 0, 1) := by decide +kernel
theorem dX4_isOutside_1 : decode cX4_isOutside 1 = .ok (.iload_n 1, 1) := by decide +kernel
theorem dX4_isOutside_2 : decode cX4_isOutside 2 = .ok (.if_icmp .lt 8, 3) := by decide +kernel
theorem dX4_isOutside_5 : decode cX4_isOutside 5 = .ok (.iload_n 0, 1) := by decide +kernel
theorem dX4_isOutside_6 : decode cX4_isOutside 6 = .ok (.iload_n 2, 1) := by decide +kernel
theorem dX4_isOutside_7 : decode cX4_isOutside 7 = .ok (.if_icmp .le 7, 3) := by decide +kernel
theorem dX4_isOutside_10 : decode cX4_isOutside 10 = .ok (.iconst 1, 1) := by decide +kernel
theorem dX4_isOutside_11 : decode cX4_isOutside 11 = .ok (.goto 4, 3) := by decide +kernel
theorem dX4_isOutside_14 : decode cX4_isOutside 14 = .ok (.iconst 0, 1) := by decide +kernel
theorem dX4_isOutside_15 : decode cX4_isOutside 15 = .ok (.ireturn, 1) := by decide +kernel
theorem dX4_remember_0 : decode cX4_remember 0 = .ok (.aload_n 0, 1) := by decide +kernel
theorem dX4_remember_1 : decode cX4_remember 1 = .ok (.getfield 19, 3) := by decide +kernel
theorem dX4_remember_4 : decode cX4_remember 4 = .ok (.aload_n 0, 1) := by decide +kernel
theorem dX4_remember_5 : decode cX4_remember 5 = .ok (.getfield 27, 3) := by decide +kernel
theorem dX4_remember_8 : decode cX4_remember 8 = .ok (.aaload, 1) := by decide +kernel
theorem dX4_remember_9 : decode cX4_remember 9 = .ok (.aload_n 0, 1) := by decide +kernel
theorem dX4_remember_10 : decode cX4_remember 10 = .ok (.getfield 10, 3) := by decide +kernel
theorem dX4_remember_13 : decode cX4_remember 13 = .ok (.invokevirtual 150, 3) := by decide +kernel
theorem dX4_remember_16 : decode cX4_remember 16 = .ok (.aload_n 0, 1) := by decide +kernel
theorem dX4_remember_17 : decode cX4_remember 17 = .ok (.aload_n 0, 1) := by decide +kernel
theorem dX4_remember_18 : decode cX4_remember 18 = .ok (.getfield 27, 3) := by decide +kernel
theorem dX4_remember_21 : decode cX4_remember 21 = .ok (.bipush 7, 2) := by decide +kernel
theorem dX4_remember_23 : decode cX4_remember 23 = .ok (.if_icmp .ne 7, 3) := by decide +kernel
theorem dX4_remember_26 : decode cX4_remember 26 = .ok (.iconst 0, 1) := by decide +kernel
theorem dX4_remember_27 : decode cX4_remember 27 = .ok (.goto 9, 3) := by decide +kernel
theorem dX4_remember_30 : decode cX4_remember 30 = .ok (.aload_n 0, 1) := by decide +kernel
theorem dX4_remember_31 : decode cX4_remember 31 = .ok (.getfield 27, 3) := by decide +kernel
theorem dX4_remember_34 : decode cX4_remember 34 = .ok (.iconst 1, 1) := by decide +kernel
theorem dX4_remember_35 : decode cX4_remember 35 = .ok (.iadd, 1) := by decide +kernel
theorem dX4_remember_36 : decode cX4_remember 36 = .ok (.putfield 27, 3) := by decide +kernel
theorem dX4_remember_39 : decode cX4_remember 39 = .ok (.aload_n 0, 1) := by decide +kernel
theorem dX4_remember_40 : decode cX4_remember 40 = .ok (.aload_n 0, 1) := by decide +kernel
theorem dX4_remember_41 : decode cX4_remember 41 = .ok (.getfield 31, 3) := by decide +kernel
theorem dX4_remember_44 : decode cX4_remember 44 = .ok (.iconst 1, 1) := by decide +kernel
theorem dX4_remember_45 : decode cX4_remember 45 = .ok (.iadd, 1) := by decide +kernel
theorem dX4_remember_46 : decode cX4_remember 46 = .ok (.bipush 8, 2) := by decide +kernel
theorem dX4_remember_48 : decode cX4_remember 48 = .ok (.invokestatic 251, 3) := by decide +kernel
theorem dX4_remember_51 : decode cX4_remember 51 = .ok (.putfield 31, 3) := by decide +kernel
theorem dX4_remember_54 : decode cX4_remember 54 = .ok (.return_, 1) := by decide +kernel
theorem dX4_huntersAheadOf_0 : decode cX4_huntersAheadOf 0 = .ok (.iconst 0, 1) := by decide +kernel
theorem dX4_huntersAheadOf_1 : decode cX4_huntersAheadOf 1 = .ok (.istore_n 2, 1) := by decide +kernel
theorem dX4_huntersAheadOf_2 : decode cX4_huntersAheadOf 2 = .ok (.iconst 0, 1) := by decide +kernel
theorem dX4_huntersAheadOf_3 : decode cX4_huntersAheadOf 3 = .ok (.istore_n 3, 1) := by decide +kernel
theorem dX4_huntersAheadOf_4 : decode cX4_huntersAheadOf 4 = .ok (.iload_n 3, 1) := by decide +kernel
theorem dX4_huntersAheadOf_5 : decode cX4_huntersAheadOf 5 = .ok (.aload_n 0, 1) := by decide +kernel
theorem dX4_huntersAheadOf_6 : decode cX4_huntersAheadOf 6 = .ok (.getfield 10, 3) := by decide +kernel
theorem dX4_huntersAheadOf_9 : decode cX4_huntersAheadOf 9 = .ok (.getfield 48, 3) := by decide +kernel
theorem dX4_huntersAheadOf_12 : decode cX4_huntersAheadOf 12 = .ok (.if_icmp .ge 21, 3) := by decide +kernel
theorem dX4_huntersAheadOf_15 : decode cX4_huntersAheadOf 15 = .ok (.aload_n 0, 1) := by decide +kernel
theorem dX4_huntersAheadOf_16 : decode cX4_huntersAheadOf 16 = .ok (.iload_n 3, 1) := by decide +kernel
theorem dX4_huntersAheadOf_17 : decode cX4_huntersAheadOf 17 = .ok (.iload_n 1, 1) := by decide +kernel
theorem dX4_huntersAheadOf_18 : decode cX4_huntersAheadOf 18 = .ok (.invokevirtual 254, 3) := by decide +kernel
theorem dX4_huntersAheadOf_21 : decode cX4_huntersAheadOf 21 = .ok (.ifCond .eq 6, 3) := by decide +kernel
theorem dX4_huntersAheadOf_24 : decode cX4_huntersAheadOf 24 = .ok (.iinc 2 1, 3) := by decide +kernel
theorem dX4_huntersAheadOf_27 : decode cX4_huntersAheadOf 27 = .ok (.iinc 3 1, 3) := by decide +kernel
theorem dX4_huntersAheadOf_30 : decode cX4_huntersAheadOf 30 = .ok (.goto (-26), 3) := by decide +kernel
theorem dX4_huntersAheadOf_33 : decode cX4_huntersAheadOf 33 = .ok (.iload_n 2, 1) := by decide +kernel
theorem dX4_huntersAheadOf_34 : decode cX4_huntersAheadOf 34 = .ok (.ireturn, 1) := by decide +kernel
theorem dX4_isAhead_0 : decode cX4_isAhead 0 = .ok (.aload_n 0, 1) := by decide +kernel
theorem dX4_isAhead_1 : decode cX4_isAhead 1 = .ok (.getfield 23, 3) := by decide +kernel
theorem dX4_isAhead_4 : decode cX4_isAhead 4 = .ok (.iload_n 1, 1) := by decide +kernel
theorem dX4_isAhead_5 : decode cX4_isAhead 5 = .ok (.iaload, 1) := by decide +kernel
theorem dX4_isAhead_6 : decode cX4_isAhead 6 = .ok (.aload_n 0, 1) := by decide +kernel
theorem dX4_isAhead_7 : decode cX4_isAhead 7 = .ok (.getfield 23, 3) := by decide +kernel
theorem dX4_isAhead_10 : decode cX4_isAhead 10 = .ok (.iload_n 2, 1) := by decide +kernel
theorem dX4_isAhead_11 : decode cX4_isAhead 11 = .ok (.iaload, 1) := by decide +kernel
theorem dX4_isAhead_12 : decode cX4_isAhead 12 = .ok (.if_icmp .eq 24, 3) := by decide +kernel
theorem dX4_isAhead_15 : decode cX4_isAhead 15 = .ok (.aload_n 0, 1) := by decide +kernel
theorem dX4_isAhead_16 : decode cX4_isAhead 16 = .ok (.getfield 23, 3) := by decide +kernel
theorem dX4_isAhead_19 : decode cX4_isAhead 19 = .ok (.iload_n 1, 1) := by decide +kernel
theorem dX4_isAhead_20 : decode cX4_isAhead 20 = .ok (.iaload, 1) := by decide +kernel
theorem dX4_isAhead_21 : decode cX4_isAhead 21 = .ok (.aload_n 0, 1) := by decide +kernel
theorem dX4_isAhead_22 : decode cX4_isAhead 22 = .ok (.getfield 23, 3) := by decide +kernel
theorem dX4_isAhead_25 : decode cX4_isAhead 25 = .ok (.iload_n 2, 1) := by decide +kernel
theorem dX4_isAhead_26 : decode cX4_isAhead 26 = .ok (.iaload, 1) := by decide +kernel
theorem dX4_isAhead_27 : decode cX4_isAhead 27 = .ok (.if_icmp .le 7, 3) := by decide +kernel
theorem dX4_isAhead_30 : decode cX4_isAhead 30 = .ok (.iconst 1, 1) := by decide +kernel
theorem dX4_isAhead_31 : decode cX4_isAhead 31 = .ok (.goto 4, 3) := by decide +kernel
theorem dX4_isAhead_34 : decode cX4_isAhead 34 = .ok (.iconst 0, 1) := by decide +kernel
theorem dX4_isAhead_35 : decode cX4_isAhead 35 = .ok (.ireturn, 1) := by decide +kernel
theorem dX4_isAhead_36 : decode cX4_isAhead 36 = .ok (.aload_n 0, 1) := by decide +kernel
theorem dX4_isAhead_37 : decode cX4_isAhead 37 = .ok (.getfield 10, 3) := by decide +kernel
theorem dX4_isAhead_40 : decode cX4_isAhead 40 = .ok (.getfield 190, 3) := by decide +kernel
theorem dX4_isAhead_43 : decode cX4_isAhead 43 = .ok (.iload_n 1, 1) := by decide +kernel
theorem dX4_isAhead_44 : decode cX4_isAhead 44 = .ok (.aaload, 1) := by decide +kernel
theorem dX4_isAhead_45 : decode cX4_isAhead 45 = .ok (.getfield 197, 3) := by decide +kernel
theorem dX4_isAhead_48 : decode cX4_isAhead 48 = .ok (.istore_n 3, 1) := by decide +kernel
theorem dX4_isAhead_49 : decode cX4_isAhead 49 = .ok (.aload_n 0, 1) := by decide +kernel
theorem dX4_isAhead_50 : decode cX4_isAhead 50 = .ok (.getfield 10, 3) := by decide +kernel
theorem dX4_isAhead_53 : decode cX4_isAhead 53 = .ok (.getfield 190, 3) := by decide +kernel
theorem dX4_isAhead_56 : decode cX4_isAhead 56 = .ok (.iload_n 2, 1) := by decide +kernel
theorem dX4_isAhead_57 : decode cX4_isAhead 57 = .ok (.aaload, 1) := by decide +kernel
theorem dX4_isAhead_58 : decode cX4_isAhead 58 = .ok (.getfield 197, 3) := by decide +kernel
theorem dX4_isAhead_61 : decode cX4_isAhead 61 = .ok (.istore 4, 2) := by decide +kernel
theorem dX4_isAhead_63 : decode cX4_isAhead 63 = .ok (.iload_n 3, 1) := by decide +kernel
theorem dX4_isAhead_64 : decode cX4_isAhead 64 = .ok (.iload 4, 2) := by decide +kernel
theorem dX4_isAhead_66 : decode cX4_isAhead 66 = .ok (.if_icmp .eq 17, 3) := by decide +kernel
theorem dX4_isAhead_69 : decode cX4_isAhead 69 = .ok (.iload_n 3, 1) := by decide +kernel
theorem dX4_isAhead_70 : decode cX4_isAhead 70 = .ok (.iload 4, 2) := by decide +kernel
theorem dX4_isAhead_72 : decode cX4_isAhead 72 = .ok (.if_icmp .le 7, 3) := by decide +kernel
theorem dX4_isAhead_75 : decode cX4_isAhead 75 = .ok (.iconst 1, 1) := by decide +kernel
theorem dX4_isAhead_76 : decode cX4_isAhead 76 = .ok (.goto 17, 3) := by decide +kernel
theorem dX4_isAhead_79 : decode cX4_isAhead 79 = .ok (.iconst 0, 1) := by decide +kernel
theorem dX4_isAhead_80 : decode cX4_isAhead 80 = .ok (.goto 13, 3) := by decide +kernel
theorem dX4_isAhead_83 : decode cX4_isAhead 83 = .ok (.iload_n 1, 1) := by decide +kernel
theorem dX4_isAhead_84 : decode cX4_isAhead 84 = .ok (.iload_n 2, 1) := by decide +kernel
theorem dX4_isAhead_85 : decode cX4_isAhead 85 = .ok (.if_icmp .ge 7, 3) := by decide +kernel
theorem dX4_isAhead_88 : decode cX4_isAhead 88 = .ok (.iconst 1, 1) := by decide +kernel
theorem dX4_isAhead_89 : decode cX4_isAhead 89 = .ok (.goto 4, 3) := by decide +kernel
theorem dX4_isAhead_92 : decode cX4_isAhead 92 = .ok (.iconst 0, 1) := by decide +kernel
theorem dX4_isAhead_93 : decode cX4_isAhead 93 = .ok (.ireturn, 1) := by decide +kernel
theorem dX5_init_0 : decode cX5_init 0 = .ok (.aload_n 0, 1) := by decide +kernel
theorem dX5_init_1 : decode cX5_init 1 = .ok (.invokespecial 1, 3) := by decide +kernel
theorem dX5_init_4 : decode cX5_init 4 = .ok (.aload_n 0, 1) := by decide +kernel
theorem dX5_init_5 : decode cX5_init 5 = .ok (.sipush 539, 3) := by decide +kernel
theorem dX5_init_8 : decode cX5_init 8 = .ok (.newarray .int, 2) := by decide +kernel
theorem dX5_init_10 : decode cX5_init 10 = .ok (.putfield 7, 3) := by decide +kernel
theorem dX5_init_13 : decode cX5_init 13 = .ok (.aload_n 0, 1) := by decide +kernel
theorem dX5_init_14 : decode cX5_init 14 = .ok (.sipush 4312, 3) := by decide +kernel
theorem dX5_init_17 : decode cX5_init 17 = .ok (.newarray .int, 2) := by decide +kernel
theorem dX5_init_19 : decode cX5_init 19 = .ok (.putfield 13, 3) := by decide +kernel
theorem dX5_init_22 : decode cX5_init 22 = .ok (.aload_n 0, 1) := by decide +kernel
theorem dX5_init_23 : decode cX5_init 23 = .ok (.sipush 539, 3) := by decide +kernel
theorem dX5_init_26 : decode cX5_init 26 = .ok (.newarray .int, 2) := by decide +kernel
theorem dX5_init_28 : decode cX5_init 28 = .ok (.putfield 16, 3) := by decide +kernel
theorem dX5_init_31 : decode cX5_init 31 = .ok (.aload_n 0, 1) := by decide +kernel
theorem dX5_init_32 : decode cX5_init 32 = .ok (.bipush 6, 2) := by decide +kernel
theorem dX5_init_34 : decode cX5_init 34 = .ok (.newarray .int, 2) := by decide +kernel
theorem dX5_init_36 : decode cX5_init 36 = .ok (.putfield 19, 3) := by decide +kernel
theorem dX5_init_39 : decode cX5_init 39 = .ok (.aload_n 0, 1) := by decide +kernel
theorem dX5_init_40 : decode cX5_init 40 = .ok (.getfield 7, 3) := by decide +kernel
theorem dX5_init_43 : decode cX5_init 43 = .ok (.iconst 2, 1) := by decide +kernel
theorem dX5_init_44 : decode cX5_init 44 = .ok (.bipush 100, 2) := by decide +kernel
theorem dX5_init_46 : decode cX5_init 46 = .ok (.iastore, 1) := by decide +kernel
theorem dX5_init_47 : decode cX5_init 47 = .ok (.aload_n 0, 1) := by decide +kernel
theorem dX5_init_48 : decode cX5_init 48 = .ok (.getfield 7, 3) := by decide +kernel
theorem dX5_init_51 : decode cX5_init 51 = .ok (.iconst 3, 1) := by decide +kernel
theorem dX5_init_52 : decode cX5_init 52 = .ok (.bipush 20, 2) := by decide +kernel
theorem dX5_init_54 : decode cX5_init 54 = .ok (.iastore, 1) := by decide +kernel
theorem dX5_init_55 : decode cX5_init 55 = .ok (.return_, 1) := by decide +kernel
theorem dX5_in_0 : decode cX5_in 0 = .ok (.iload_n 0, 1) := by decide +kernel
theorem dX5_in_1 : decode cX5_in 1 = .ok (.iload_n 1, 1) := by decide +kernel
theorem dX5_in_2 : decode cX5_in 2 = .ok (.if_icmp .lt 12, 3) := by decide +kernel
theorem dX5_in_5 : decode cX5_in 5 = .ok (.iload_n 0, 1) := by decide +kernel
theorem dX5_in_6 : decode cX5_in 6 = .ok (.iload_n 2, 1) := by decide +kernel
theorem dX5_in_7 : decode cX5_in 7 = .ok (.if_icmp .gt 7, 3) := by decide +kernel
theorem dX5_in_10 : decode cX5_in 10 = .ok (.iconst 1, 1) := by decide +kernel
theorem dX5_in_11 : decode cX5_in 11 = .ok (.goto 4, 3) := by decide +kernel
theorem dX5_in_14 : decode cX5_in 14 = .ok (.iconst 0, 1) := by decide +kernel
theorem dX5_in_15 : decode cX5_in 15 = .ok (.ireturn, 1) := by decide +kernel
theorem dX5_has_0 : decode cX5_has 0 = .ok (.iload_n 0, 1) := by decide +kernel
theorem dX5_has_1 : decode cX5_has 1 = .ok (.iload_n 1, 1) := by decide +kernel
theorem dX5_has_2 : decode cX5_has 2 = .ok (.ishr, 1) := by decide +kernel
theorem dX5_has_3 : decode cX5_has 3 = .ok (.iconst 1, 1) := by decide +kernel
theorem dX5_has_4 : decode cX5_has 4 = .ok (.iand, 1) := by decide +kernel
theorem dX5_has_5 : decode cX5_has 5 = .ok (.iconst 1, 1) := by decide +kernel
theorem dX5_has_6 : decode cX5_has 6 = .ok (.if_icmp .ne 7, 3) := by decide +kernel
theorem dX5_has_9 : decode cX5_has 9 = .ok (.iconst 1, 1) := by decide +kernel
theorem dX5_has_10 : decode cX5_has 10 = .ok (.goto 4, 3) := by decide +kernel
theorem dX5_has_13 : decode cX5_has 13 = .ok (.iconst 0, 1) := by decide +kernel
theorem dX5_has_14 : decode cX5_has 14 = .ok (.ireturn, 1) := by decide +kernel
theorem dX5_ones_0 : decode cX5_ones 0 = .ok (.iconst 0, 1) := by decide +kernel
theorem dX5_ones_1 : decode cX5_ones 1 = .ok (.istore_n 1, 1) := by decide +kernel
theorem dX5_ones_2 : decode cX5_ones 2 = .ok (.iconst 0, 1) := by decide +kernel
theorem dX5_ones_3 : decode cX5_ones 3 = .ok (.istore_n 2, 1) := by decide +kernel
theorem dX5_ones_4 : decode cX5_ones 4 = .ok (.iload_n 2, 1) := by decide +kernel
theorem dX5_ones_5 : decode cX5_ones 5 = .ok (.bipush 8, 2) := by decide +kernel
theorem dX5_ones_7 : decode cX5_ones 7 = .ok (.if_icmp .ge 17, 3) := by decide +kernel
theorem dX5_ones_10 : decode cX5_ones 10 = .ok (.iload_n 1, 1) := by decide +kernel
theorem dX5_ones_11 : decode cX5_ones 11 = .ok (.iload_n 0, 1) := by decide +kernel
theorem dX5_ones_12 : decode cX5_ones 12 = .ok (.iload_n 2, 1) := by decide +kernel
theorem dX5_ones_13 : decode cX5_ones 13 = .ok (.ishr, 1) := by decide +kernel
theorem dX5_ones_14 : decode cX5_ones 14 = .ok (.iconst 1, 1) := by decide +kernel
theorem dX5_ones_15 : decode cX5_ones 15 = .ok (.iand, 1) := by decide +kernel
theorem dX5_ones_16 : decode cX5_ones 16 = .ok (.iadd, 1) := by decide +kernel
theorem dX5_ones_17 : decode cX5_ones 17 = .ok (.istore_n 1, 1) := by decide +kernel
theorem dX5_ones_18 : decode cX5_ones 18 = .ok (.iinc 2 1, 3) := by decide +kernel
theorem dX5_ones_21 : decode cX5_ones 21 = .ok (.goto (-17), 3) := by decide +kernel
theorem dX5_ones_24 : decode cX5_ones 24 = .ok (.iload_n 1, 1) := by decide +kernel
theorem dX5_ones_25 : decode cX5_ones 25 = .ok (.ireturn, 1) := by decide +kernel
theorem dX5_lesser_0 : decode cX5_lesser 0 = .ok (.iload_n 0, 1) := by decide +kernel
theorem dX5_lesser_1 : decode cX5_lesser 1 = .ok (.iload_n 1, 1) := by decide +kernel
theorem dX5_lesser_2 : decode cX5_lesser 2 = .ok (.if_icmp .ge 7, 3) := by decide +kernel
theorem dX5_lesser_5 : decode cX5_lesser 5 = .ok (.iload_n 0, 1) := by decide +kernel
theorem dX5_lesser_6 : decode cX5_lesser 6 = .ok (.goto 4, 3) := by decide +kernel
theorem dX5_lesser_9 : decode cX5_lesser 9 = .ok (.iload_n 1, 1) := by decide +kernel
theorem dX5_lesser_10 : decode cX5_lesser 10 = .ok (.ireturn, 1) := by decide +kernel
theorem dX5_keeps_0 : decode cX5_keeps 0 = .ok (.aload_n 0, 1) := by decide +kernel
theorem dX5_keeps_1 : decode cX5_keeps 1 = .ok (.getfield 22, 3) := by decide +kernel
theorem dX5_keeps_4 : decode cX5_keeps 4 = .ok (.bipush 8, 2) := by decide +kernel
theorem dX5_keeps_6 : decode cX5_keeps 6 = .ok (.if_icmp .ne 44, 3) := by decide +kernel
theorem dX5_keeps_9 : decode cX5_keeps 9 = .ok (.iconst 0, 1) := by decide +kernel
theorem dX5_keeps_10 : decode cX5_keeps 10 = .ok (.istore_n 1, 1) := by decide +kernel
theorem dX5_keeps_11 : decode cX5_keeps 11 = .ok (.iload_n 1, 1) := by decide +kernel
theorem dX5_keeps_12 : decode cX5_keeps 12 = .ok (.sipush 3773, 3) := by decide +kernel
theorem dX5_keeps_15 : decode cX5_keeps 15 = .ok (.if_icmp .ge 25, 3) := by decide +kernel
theorem dX5_keeps_18 : decode cX5_keeps 18 = .ok (.aload_n 0, 1) := by decide +kernel
theorem dX5_keeps_19 : decode cX5_keeps 19 = .ok (.getfield 13, 3) := by decide +kernel
theorem dX5_keeps_22 : decode cX5_keeps 22 = .ok (.iload_n 1, 1) := by decide +kernel
theorem dX5_keeps_23 : decode cX5_keeps 23 = .ok (.aload_n 0, 1) := by decide +kernel
theorem dX5_keeps_24 : decode cX5_keeps 24 = .ok (.getfield 13, 3) := by decide +kernel
theorem dX5_keeps_27 : decode cX5_keeps 27 = .ok (.iload_n 1, 1) := by decide +kernel
theorem dX5_keeps_28 : decode cX5_keeps 28 = .ok (.sipush 539, 3) := by decide +kernel
theorem dX5_keeps_31 : decode cX5_keeps 31 = .ok (.iadd, 1) := by decide +kernel
theorem dX5_keeps_32 : decode cX5_keeps 32 = .ok (.iaload, 1) := by decide +kernel
theorem dX5_keeps_33 : decode cX5_keeps 33 = .ok (.iastore, 1) := by decide +kernel
theorem dX5_keeps_34 : decode cX5_keeps 34 = .ok (.iinc 1 1, 3) := by decide +kernel
theorem dX5_keeps_37 : decode cX5_keeps 37 = .ok (.goto (-26), 3) := by decide +kernel
theorem dX5_keeps_40 : decode cX5_keeps 40 = .ok (.aload_n 0, 1) := by decide +kernel
theorem dX5_keeps_41 : decode cX5_keeps 41 = .ok (.dup, 1) := by decide +kernel
theorem dX5_keeps_42 : decode cX5_keeps 42 = .ok (.getfield 22, 3) := by decide +kernel
theorem dX5_keeps_45 : decode cX5_keeps 45 = .ok (.iconst 1, 1) := by decide +kernel
theorem dX5_keeps_46 : decode cX5_keeps 46 = .ok (.isub, 1) := by decide +kernel
theorem dX5_keeps_47 : decode cX5_keeps 47 = .ok (.putfield 22, 3) := by decide +kernel
theorem dX5_keeps_50 : decode cX5_keeps 50 = .ok (.iconst 0, 1) := by decide +kernel
theorem dX5_keeps_51 : decode cX5_keeps 51 = .ok (.istore_n 1, 1) := by decide +kernel
theorem dX5_keeps_52 : decode cX5_keeps 52 = .ok (.iload_n 1, 1) := by decide +kernel
theorem dX5_keeps_53 : decode cX5_keeps 53 = .ok (.sipush 539, 3) := by decide +kernel
theorem dX5_keeps_56 : decode cX5_keeps 56 = .ok (.if_icmp .ge 30, 3) := by decide +kernel
theorem dX5_keeps_59 : decode cX5_keeps 59 = .ok (.aload_n 0, 1) := by decide +kernel
theorem dX5_keeps_60 : decode cX5_keeps 60 = .ok (.getfield 13, 3) := by decide +kernel
theorem dX5_keeps_63 : decode cX5_keeps 63 = .ok (.sipush 539, 3) := by decide +kernel
theorem dX5_keeps_66 : decode cX5_keeps 66 = .ok (.aload_n 0, 1) := by decide +kernel
theorem dX5_keeps_67 : decode cX5_keeps 67 = .ok (.getfield 22, 3) := by decide +kernel
theorem dX5_keeps_70 : decode cX5_keeps 70 = .ok (.imul, 1) := by decide +kernel
theorem dX5_keeps_71 : decode cX5_keeps 71 = .ok (.iload_n 1, 1) := by decide +kernel
theorem dX5_keeps_72 : decode cX5_keeps 72 = .ok (.iadd, 1) := by decide +kernel
theorem dX5_keeps_73 : decode cX5_keeps 73 = .ok (.aload_n 0, 1) := by decide +kernel
theorem dX5_keeps_74 : decode cX5_keeps 74 = .ok (.getfield 7, 3) := by decide +kernel
theorem dX5_keeps_77 : decode cX5_keeps 77 = .ok (.iload_n 1, 1) := by decide +kernel
theorem dX5_keeps_78 : decode cX5_keeps 78 = .ok (.iaload, 1) := by decide +kernel
theorem dX5_keeps_79 : decode cX5_keeps 79 = .ok (.iastore, 1) := by decide +kernel
theorem dX5_keeps_80 : decode cX5_keeps 80 = .ok (.iinc 1 1, 3) := by decide +kernel
theorem dX5_keeps_83 : decode cX5_keeps 83 = .ok (.goto (-31), 3) := by decide +kernel
theorem dX5_keeps_86 : decode cX5_keeps 86 = .ok (.aload_n 0, 1) := by decide +kernel
theorem dX5_keeps_87 : decode cX5_keeps 87 = .ok (.dup, 1) := by decide +kernel
theorem dX5_keeps_88 : decode cX5_keeps 88 = .ok (.getfield 22, 3) := by decide +kernel
theorem dX5_keeps_91 : decode cX5_keeps 91 = .ok (.iconst 1, 1) := by decide +kernel
theorem dX5_keeps_92 : decode cX5_keeps 92 = .ok (.iadd, 1) := by decide +kernel
theorem dX5_keeps_93 : decode cX5_keeps 93 = .ok (.putfield 22, 3) := by decide +kernel
theorem dX5_keeps_96 : decode cX5_keeps 96 = .ok (.return_, 1) := by decide +kernel
theorem dX5_undo_0 : decode cX5_undo 0 = .ok (.aload_n 0, 1) := by decide +kernel
theorem dX5_undo_1 : decode cX5_undo 1 = .ok (.getfield 22, 3) := by decide +kernel
theorem dX5_undo_4 : decode cX5_undo 4 = .ok (.ifCond .ne 7, 3) := by decide +kernel
theorem dX5_undo_7 : decode cX5_undo 7 = .ok (.sipush (-10002), 3) := by decide +kernel
theorem dX5_undo_10 : decode cX5_undo 10 = .ok (.ireturn, 1) := by decide +kernel
theorem dX5_undo_11 : decode cX5_undo 11 = .ok (.aload_n 0, 1) := by decide +kernel
theorem dX5_undo_12 : decode cX5_undo 12 = .ok (.dup, 1) := by decide +kernel
theorem dX5_undo_13 : decode cX5_undo 13 = .ok (.getfield 22, 3) := by decide +kernel
theorem dX5_undo_16 : decode cX5_undo 16 = .ok (.iconst 1, 1) := by decide +kernel
theorem dX5_undo_17 : decode cX5_undo 17 = .ok (.isub, 1) := by decide +kernel
theorem dX5_undo_18 : decode cX5_undo 18 = .ok (.putfield 22, 3) := by decide +kernel
theorem dX5_undo_21 : decode cX5_undo 21 = .ok (.iconst 0, 1) := by decide +kernel
theorem dX5_undo_22 : decode cX5_undo 22 = .ok (.istore_n 1, 1) := by decide +kernel
theorem dX5_undo_23 : decode cX5_undo 23 = .ok (.iload_n 1, 1) := by decide +kernel
theorem dX5_undo_24 : decode cX5_undo 24 = .ok (.sipush 539, 3) := by decide +kernel
theorem dX5_undo_27 : decode cX5_undo 27 = .ok (.if_icmp .ge 30, 3) := by decide +kernel
theorem dX5_undo_30 : decode cX5_undo 30 = .ok (.aload_n 0, 1) := by decide +kernel
theorem dX5_undo_31 : decode cX5_undo 31 = .ok (.getfield 7, 3) := by decide +kernel
theorem dX5_undo_34 : decode cX5_undo 34 = .ok (.iload_n 1, 1) := by decide +kernel
theorem dX5_undo_35 : decode cX5_undo 35 = .ok (.aload_n 0, 1) := by decide +kernel
theorem dX5_undo_36 : decode cX5_undo 36 = .ok (.getfield 13, 3) := by decide +kernel
theorem dX5_undo_39 : decode cX5_undo 39 = .ok (.sipush 539, 3) := by decide +kernel
theorem dX5_undo_42 : decode cX5_undo 42 = .ok (.aload_n 0, 1) := by decide +kernel
theorem dX5_undo_43 : decode cX5_undo 43 = .ok (.getfield 22, 3) := by decide +kernel
theorem dX5_undo_46 : decode cX5_undo 46 = .ok (.imul, 1) := by decide +kernel
theorem dX5_undo_47 : decode cX5_undo 47 = .ok (.iload_n 1, 1) := by decide +kernel
theorem dX5_undo_48 : decode cX5_undo 48 = .ok (.iadd, 1) := by decide +kernel
theorem dX5_undo_49 : decode cX5_undo 49 = .ok (.iaload, 1) := by decide +kernel
theorem dX5_undo_50 : decode cX5_undo 50 = .ok (.iastore, 1) := by decide +kernel
theorem dX5_undo_51 : decode cX5_undo 51 = .ok (.iinc 1 1, 3) := by decide +kernel
theorem dX5_undo_54 : decode cX5_undo 54 = .ok (.goto (-31), 3) := by decide +kernel
theorem dX5_undo_57 : decode cX5_undo 57 = .ok (.aload_n 0, 1) := by decide +kernel
theorem dX5_undo_58 : decode cX5_undo 58 = .ok (.getfield 22, 3) := by decide +kernel
theorem dX5_undo_61 : decode cX5_undo 61 = .ok (.ireturn, 1) := by decide +kernel
theorem dX5_isAsset_0 : decode cX5_isAsset 0 = .ok (.iload_n 1, 1) := by decide +kernel
theorem dX5_isAsset_1 : decode cX5_isAsset 1 = .ok (.iconst 0, 1) := by decide +kernel
theorem dX5_isAsset_2 : decode cX5_isAsset 2 = .ok (.aload_n 0, 1) := by decide +kernel
theorem dX5_isAsset_3 : decode cX5_isAsset 3 = .ok (.getfield 7, 3) := by decide +kernel
theorem dX5_isAsset_6 : decode cX5_isAsset 6 = .ok (.iconst 4, 1) := by decide +kernel
theorem dX5_isAsset_7 : decode cX5_isAsset 7 = .ok (.iaload, 1) := by decide +kernel
theorem dX5_isAsset_8 : decode cX5_isAsset 8 = .ok (.iconst 1, 1) := by decide +kernel
theorem dX5_isAsset_9 : decode cX5_isAsset 9 = .ok (.isub, 1) := by decide +kernel
theorem dX5_isAsset_10 : decode cX5_isAsset 10 = .ok (.invokestatic 26, 3) := by decide +kernel
theorem dX5_isAsset_13 : decode cX5_isAsset 13 = .ok (.ireturn, 1) := by decide +kernel
theorem dX5_isHunter_0 : decode cX5_isHunter 0 = .ok (.iload_n 1, 1) := by decide +kernel
theorem dX5_isHunter_1 : decode cX5_isHunter 1 = .ok (.iconst 0, 1) := by decide +kernel
theorem dX5_isHunter_2 : decode cX5_isHunter 2 = .ok (.aload_n 0, 1) := by decide +kernel
theorem dX5_isHunter_3 : decode cX5_isHunter 3 = .ok (.getfield 7, 3) := by decide +kernel
theorem dX5_isHunter_6 : decode cX5_isHunter 6 = .ok (.iconst 5, 1) := by decide +kernel
theorem dX5_isHunter_7 : decode cX5_isHunter 7 = .ok (.iaload, 1) := by decide +kernel
theorem dX5_isHunter_8 : decode cX5_isHunter 8 = .ok (.iconst 1, 1) := by decide +kernel
theorem dX5_isHunter_9 : decode cX5_isHunter 9 = .ok (.isub, 1) := by decide +kernel
theorem dX5_isHunter_10 : decode cX5_isHunter 10 = .ok (.invokestatic 26, 3) := by decide +kernel
theorem dX5_isHunter_13 : decode cX5_isHunter 13 = .ok (.ireturn, 1) := by decide +kernel
theorem dX5_isReport_0 : decode cX5_isReport 0 = .ok (.iload_n 1, 1) := by decide +kernel
theorem dX5_isReport_1 : decode cX5_isReport 1 = .ok (.iconst 0, 1) := by decide +kernel
theorem dX5_isReport_2 : decode cX5_isReport 2 = .ok (.aload_n 0, 1) := by decide +kernel
theorem dX5_isReport_3 : decode cX5_isReport 3 = .ok (.getfield 7, 3) := by decide +kernel
theorem dX5_isReport_6 : decode cX5_isReport 6 = .ok (.bipush 6, 2) := by decide +kernel
theorem dX5_isReport_8 : decode cX5_isReport 8 = .ok (.iaload, 1) := by decide +kernel
theorem dX5_isReport_9 : decode cX5_isReport 9 = .ok (.iconst 1, 1) := by decide +kernel
theorem dX5_isReport_10 : decode cX5_isReport 10 = .ok (.isub, 1) := by decide +kernel
theorem dX5_isReport_11 : decode cX5_isReport 11 = .ok (.invokestatic 26, 3) := by decide +kernel
theorem dX5_isReport_14 : decode cX5_isReport 14 = .ok (.ireturn, 1) := by decide +kernel
theorem dX5_atAsset_0 : decode cX5_atAsset 0 = .ok (.bipush 9, 2) := by decide +kernel
theorem dX5_atAsset_2 : decode cX5_atAsset 2 = .ok (.iconst 3, 1) := by decide +kernel
theorem dX5_atAsset_3 : decode cX5_atAsset 3 = .ok (.iload_n 0, 1) := by decide +kernel
theorem dX5_atAsset_4 : decode cX5_atAsset 4 = .ok (.imul, 1) := by decide +kernel
theorem dX5_atAsset_5 : decode cX5_atAsset 5 = .ok (.iadd, 1) := by decide +kernel
theorem dX5_atAsset_6 : decode cX5_atAsset 6 = .ok (.iload_n 1, 1) := by decide +kernel
theorem dX5_atAsset_7 : decode cX5_atAsset 7 = .ok (.iadd, 1) := by decide +kernel
theorem dX5_atAsset_8 : decode cX5_atAsset 8 = .ok (.ireturn, 1) := by decide +kernel
theorem dX5_atHunter_0 : decode cX5_atHunter 0 = .ok (.bipush 27, 2) := by decide +kernel
theorem dX5_atHunter_2 : decode cX5_atHunter 2 = .ok (.iconst 4, 1) := by decide +kernel
theorem dX5_atHunter_3 : decode cX5_atHunter 3 = .ok (.iload_n 0, 1) := by decide +kernel
theorem dX5_atHunter_4 : decode cX5_atHunter 4 = .ok (.imul, 1) := by decide +kernel
theorem dX5_atHunter_5 : decode cX5_atHunter 5 = .ok (.iadd, 1) := by decide +kernel
theorem dX5_atHunter_6 : decode cX5_atHunter 6 = .ok (.iload_n 1, 1) := by decide +kernel
theorem dX5_atHunter_7 : decode cX5_atHunter 7 = .ok (.iadd, 1) := by decide +kernel
theorem dX5_atHunter_8 : decode cX5_atHunter 8 = .ok (.ireturn, 1) := by decide +kernel
theorem dX5_at_0 : decode cX5_at 0 = .ok (.bipush 59, 2) := by decide +kernel
theorem dX5_at_2 : decode cX5_at 2 = .ok (.bipush 12, 2) := by decide +kernel
theorem dX5_at_4 : decode cX5_at 4 = .ok (.iload_n 0, 1) := by decide +kernel
theorem dX5_at_5 : decode cX5_at 5 = .ok (.imul, 1) := by decide +kernel
theorem dX5_at_6 : decode cX5_at 6 = .ok (.iadd, 1) := by decide +kernel
theorem dX5_at_7 : decode cX5_at 7 = .ok (.iload_n 1, 1) := by decide +kernel
theorem dX5_at_8 : decode cX5_at 8 = .ok (.iadd, 1) := by decide +kernel
theorem dX5_at_9 : decode cX5_at 9 = .ok (.ireturn, 1) := by decide +kernel
theorem dX5_of_0 : decode cX5_of 0 = .ok (.aload_n 0, 1) := by decide +kernel
theorem dX5_of_1 : decode cX5_of 1 = .ok (.getfield 7, 3) := by decide +kernel
theorem dX5_of_4 : decode cX5_of 4 = .ok (.iload_n 1, 1) := by decide +kernel
theorem dX5_of_5 : decode cX5_of 5 = .ok (.iload_n 2, 1) := by decide +kernel
theorem dX5_of_6 : decode cX5_of 6 = .ok (.invokestatic 30, 3) := by decide +kernel
theorem dX5_of_9 : decode cX5_of 9 = .ok (.iaload, 1) := by decide +kernel
theorem dX5_of_10 : decode cX5_of 10 = .ok (.ireturn, 1) := by decide +kernel
theorem dX5_addAsset_0 : decode cX5_addAsset 0 = .ok (.iload_n 1, 1) := by decide +kernel
theorem dX5_addAsset_1 : decode cX5_addAsset 1 = .ok (.iconst 1, 1) := by decide +kernel
theorem dX5_addAsset_2 : decode cX5_addAsset 2 = .ok (.bipush 9, 2) := by decide +kernel
theorem dX5_addAsset_4 : decode cX5_addAsset 4 = .ok (.invokestatic 26, 3) := by decide +kernel
theorem dX5_addAsset_7 : decode cX5_addAsset 7 = .ok (.ifCond .eq 14, 3) := by decide +kernel
theorem dX5_addAsset_10 : decode cX5_addAsset 10 = .ok (.iload_n 2, 1) := by decide +kernel
theorem dX5_addAsset_11 : decode cX5_addAsset 11 = .ok (.iconst 0, 1) := by decide +kernel
theorem dX5_addAsset_12 : decode cX5_addAsset 12 = .ok (.sipush 10000, 3) := by decide +kernel
theorem dX5_addAsset_15 : decode cX5_addAsset 15 = .ok (.invokestatic 26, 3) := by decide +kernel
theorem dX5_addAsset_18 : decode cX5_addAsset 18 = .ok (.ifCond .ne 7, 3) := by decide +kernel
theorem dX5_addAsset_21 : decode cX5_addAsset 21 = .ok (.sipush (-10001), 3) := by decide +kernel
theorem dX5_addAsset_24 : decode cX5_addAsset 24 = .ok (.ireturn, 1) := by decide +kernel
theorem dX5_addAsset_25 : decode cX5_addAsset 25 = .ok (.aload_n 0, 1) := by decide +kernel
theorem dX5_addAsset_26 : decode cX5_addAsset 26 = .ok (.getfield 7, 3) := by decide +kernel
theorem dX5_addAsset_29 : decode cX5_addAsset 29 = .ok (.iconst 4, 1) := by decide +kernel
theorem dX5_addAsset_30 : decode cX5_addAsset 30 = .ok (.iaload, 1) := by decide +kernel
theorem dX5_addAsset_31 : decode cX5_addAsset 31 = .ok (.bipush 6, 2) := by decide +kernel
theorem dX5_addAsset_33 : decode cX5_addAsset 33 = .ok (.if_icmp .ne 7, 3) := by decide +kernel
theorem dX5_addAsset_36 : decode cX5_addAsset 36 = .ok (.sipush (-10003), 3) := by decide +kernel
theorem dX5_addAsset_39 : decode cX5_addAsset 39 = .ok (.ireturn, 1) := by decide +kernel
theorem dX5_addAsset_40 : decode cX5_addAsset 40 = .ok (.aload_n 0, 1) := by decide +kernel
theorem dX5_addAsset_41 : decode cX5_addAsset 41 = .ok (.invokevirtual 34, 3) := by decide +kernel
theorem dX5_addAsset_44 : decode cX5_addAsset 44 = .ok (.aload_n 0, 1) := by decide +kernel
theorem dX5_addAsset_45 : decode cX5_addAsset 45 = .ok (.getfield 7, 3) := by decide +kernel
theorem dX5_addAsset_48 : decode cX5_addAsset 48 = .ok (.iconst 4, 1) := by decide +kernel
theorem dX5_addAsset_49 : decode cX5_addAsset 49 = .ok (.iaload, 1) := by decide +kernel
theorem dX5_addAsset_50 : decode cX5_addAsset 50 = .ok (.istore_n 3, 1) := by decide +kernel
theorem dX5_addAsset_51 : decode cX5_addAsset 51 = .ok (.aload_n 0, 1) := by decide +kernel
theorem dX5_addAsset_52 : decode cX5_addAsset 52 = .ok (.getfield 7, 3) := by decide +kernel
theorem dX5_addAsset_55 : decode cX5_addAsset 55 = .ok (.iload_n 3, 1) := by decide +kernel
theorem dX5_addAsset_56 : decode cX5_addAsset 56 = .ok (.iconst 0, 1) := by decide +kernel
theorem dX5_addAsset_57 : decode cX5_addAsset 57 = .ok (.invokestatic 37, 3) := by decide +kernel
theorem dX5_addAsset_60 : decode cX5_addAsset 60 = .ok (.iload_n 1, 1) := by decide +kernel
theorem dX5_addAsset_61 : decode cX5_addAsset 61 = .ok (.iastore, 1) := by decide +kernel
theorem dX5_addAsset_62 : decode cX5_addAsset 62 = .ok (.aload_n 0, 1) := by decide +kernel
theorem dX5_addAsset_63 : decode cX5_addAsset 63 = .ok (.getfield 7, 3) := by decide +kernel
theorem dX5_addAsset_66 : decode cX5_addAsset 66 = .ok (.iload_n 3, 1) := by decide +kernel
theorem dX5_addAsset_67 : decode cX5_addAsset 67 = .ok (.iconst 1, 1) := by decide +kernel
theorem dX5_addAsset_68 : decode cX5_addAsset 68 = .ok (.invokestatic 37, 3) := by decide +kernel
theorem dX5_addAsset_71 : decode cX5_addAsset 71 = .ok (.iload_n 2, 1) := by decide +kernel
theorem dX5_addAsset_72 : decode cX5_addAsset 72 = .ok (.iastore, 1) := by decide +kernel
theorem dX5_addAsset_73 : decode cX5_addAsset 73 = .ok (.aload_n 0, 1) := by decide +kernel
theorem dX5_addAsset_74 : decode cX5_addAsset 74 = .ok (.getfield 7, 3) := by decide +kernel
theorem dX5_addAsset_77 : decode cX5_addAsset 77 = .ok (.iload_n 3, 1) := by decide +kernel
theorem dX5_addAsset_78 : decode cX5_addAsset 78 = .ok (.iconst 2, 1) := by decide +kernel
theorem dX5_addAsset_79 : decode cX5_addAsset 79 = .ok (.invokestatic 37, 3) := by decide +kernel
theorem dX5_addAsset_82 : decode cX5_addAsset 82 = .ok (.iload_n 2, 1) := by decide +kernel
theorem dX5_addAsset_83 : decode cX5_addAsset 83 = .ok (.iastore, 1) := by decide +kernel
theorem dX5_addAsset_84 : decode cX5_addAsset 84 = .ok (.aload_n 0, 1) := by decide +kernel
theorem dX5_addAsset_85 : decode cX5_addAsset 85 = .ok (.getfield 7, 3) := by decide +kernel
theorem dX5_addAsset_88 : decode cX5_addAsset 88 = .ok (.iconst 4, 1) := by decide +kernel
theorem dX5_addAsset_89 : decode cX5_addAsset 89 = .ok (.dup2, 1) := by decide +kernel
theorem dX5_addAsset_90 : decode cX5_addAsset 90 = .ok (.iaload, 1) := by decide +kernel
theorem dX5_addAsset_91 : decode cX5_addAsset 91 = .ok (.iconst 1, 1) := by decide +kernel
theorem dX5_addAsset_92 : decode cX5_addAsset 92 = .ok (.iadd, 1) := by decide +kernel
theorem dX5_addAsset_93 : decode cX5_addAsset 93 = .ok (.iastore, 1) := by decide +kernel
theorem dX5_addAsset_94 : decode cX5_addAsset 94 = .ok (.iload_n 3, 1) := by decide +kernel
theorem dX5_addAsset_95 : decode cX5_addAsset 95 = .ok (.ireturn, 1) := by decide +kernel
theorem dX5_addHunter_0 : decode cX5_addHunter 0 = .ok (.aload_n 0, 1) := by decide +kernel
theorem dX5_addHunter_1 : decode cX5_addHunter 1 = .ok (.getfield 7, 3) := by decide +kernel
theorem dX5_addHunter_4 : decode cX5_addHunter 4 = .ok (.iconst 5, 1) := by decide +kernel
theorem dX5_addHunter_5 : decode cX5_addHunter 5 = .ok (.iaload, 1) := by decide +kernel
theorem dX5_addHunter_6 : decode cX5_addHunter 6 = .ok (.bipush 8, 2) := by decide +kernel
theorem dX5_addHunter_8 : decode cX5_addHunter 8 = .ok (.if_icmp .ne 7, 3) := by decide +kernel
theorem dX5_addHunter_11 : decode cX5_addHunter 11 = .ok (.sipush (-10003), 3) := by decide +kernel
theorem dX5_addHunter_14 : decode cX5_addHunter 14 = .ok (.ireturn, 1) := by decide +kernel
theorem dX5_addHunter_15 : decode cX5_addHunter 15 = .ok (.aload_n 0, 1) := by decide +kernel
theorem dX5_addHunter_16 : decode cX5_addHunter 16 = .ok (.invokevirtual 34, 3) := by decide +kernel
theorem dX5_addHunter_19 : decode cX5_addHunter 19 = .ok (.aload_n 0, 1) := by decide +kernel
theorem dX5_addHunter_20 : decode cX5_addHunter 20 = .ok (.getfield 7, 3) := by decide +kernel
theorem dX5_addHunter_23 : decode cX5_addHunter 23 = .ok (.iconst 5, 1) := by decide +kernel
theorem dX5_addHunter_24 : decode cX5_addHunter 24 = .ok (.dup2, 1) := by decide +kernel
theorem dX5_addHunter_25 : decode cX5_addHunter 25 = .ok (.iaload, 1) := by decide +kernel
theorem dX5_addHunter_26 : decode cX5_addHunter 26 = .ok (.iconst 1, 1) := by decide +kernel
theorem dX5_addHunter_27 : decode cX5_addHunter 27 = .ok (.iadd, 1) := by decide +kernel
theorem dX5_addHunter_28 : decode cX5_addHunter 28 = .ok (.iastore, 1) := by decide +kernel
theorem dX5_addHunter_29 : decode cX5_addHunter 29 = .ok (.aload_n 0, 1) := by decide +kernel
theorem dX5_addHunter_30 : decode cX5_addHunter 30 = .ok (.getfield 7, 3) := by decide +kernel
theorem dX5_addHunter_33 : decode cX5_addHunter 33 = .ok (.iconst 5, 1) := by decide +kernel
theorem dX5_addHunter_34 : decode cX5_addHunter 34 = .ok (.iaload, 1) := by decide +kernel
theorem dX5_addHunter_35 : decode cX5_addHunter 35 = .ok (.iconst 1, 1) := by decide +kernel
theorem dX5_addHunter_36 : decode cX5_addHunter 36 = .ok (.isub, 1) := by decide +kernel
theorem dX5_addHunter_37 : decode cX5_addHunter 37 = .ok (.ireturn, 1) := by decide +kernel
theorem dX5_fill_0 : decode cX5_fill 0 = .ok (.iload_n 1, 1) := by decide +kernel
theorem dX5_fill_1 : decode cX5_fill 1 = .ok (.iconst 1, 1) := by decide +kernel
theorem dX5_fill_2 : decode cX5_fill 2 = .ok (.ldc 40, 2) := by decide +kernel
theorem dX5_fill_4 : decode cX5_fill 4 = .ok (.invokestatic 26, 3) := by decide +kernel
theorem dX5_fill_7 : decode cX5_fill 7 = .ok (.ifCond .ne 7, 3) := by decide +kernel
theorem dX5_fill_10 : decode cX5_fill 10 = .ok (.sipush (-10001), 3) := by decide +kernel
theorem dX5_fill_13 : decode cX5_fill 13 = .ok (.ireturn, 1) := by decide +kernel
theorem dX5_fill_14 : decode cX5_fill 14 = .ok (.aload_n 0, 1) := by decide +kernel
theorem dX5_fill_15 : decode cX5_fill 15 = .ok (.getfield 7, 3) := by decide +kernel
theorem dX5_fill_18 : decode cX5_fill 18 = .ok (.iconst 1, 1) := by decide +kernel
theorem dX5_fill_19 : decode cX5_fill 19 = .ok (.iaload, 1) := by decide +kernel
theorem dX5_fill_20 : decode cX5_fill 20 = .ok (.iload_n 1, 1) := by decide +kernel
theorem dX5_fill_21 : decode cX5_fill 21 = .ok (.iadd, 1) := by decide +kernel
theorem dX5_fill_22 : decode cX5_fill 22 = .ok (.ldc 41, 2) := by decide +kernel
theorem dX5_fill_24 : decode cX5_fill 24 = .ok (.if_icmp .le 7, 3) := by decide +kernel
theorem dX5_fill_27 : decode cX5_fill 27 = .ok (.sipush (-10002), 3) := by decide +kernel
theorem dX5_fill_30 : decode cX5_fill 30 = .ok (.ireturn, 1) := by decide +kernel
theorem dX5_fill_31 : decode cX5_fill 31 = .ok (.aload_n 0, 1) := by decide +kernel
theorem dX5_fill_32 : decode cX5_fill 32 = .ok (.invokevirtual 34, 3) := by decide +kernel
theorem dX5_fill_35 : decode cX5_fill 35 = .ok (.aload_n 0, 1) := by decide +kernel
theorem dX5_fill_36 : decode cX5_fill 36 = .ok (.getfield 7, 3) := by decide +kernel
theorem dX5_fill_39 : decode cX5_fill 39 = .ok (.iconst 1, 1) := by decide +kernel
theorem dX5_fill_40 : decode cX5_fill 40 = .ok (.dup2, 1) := by decide +kernel
theorem dX5_fill_41 : decode cX5_fill 41 = .ok (.iaload, 1) := by decide +kernel
theorem dX5_fill_42 : decode cX5_fill 42 = .ok (.iload_n 1, 1) := by decide +kernel
theorem dX5_fill_43 : decode cX5_fill 43 = .ok (.iadd, 1) := by decide +kernel
theorem dX5_fill_44 : decode cX5_fill 44 = .ok (.iastore, 1) := by decide +kernel
theorem dX5_fill_45 : decode cX5_fill 45 = .ok (.aload_n 0, 1) := by decide +kernel
theorem dX5_fill_46 : decode cX5_fill 46 = .ok (.getfield 7, 3) := by decide +kernel
theorem dX5_fill_49 : decode cX5_fill 49 = .ok (.iconst 1, 1) := by decide +kernel
theorem dX5_fill_50 : decode cX5_fill 50 = .ok (.iaload, 1) := by decide +kernel
theorem dX5_fill_51 : decode cX5_fill 51 = .ok (.ireturn, 1) := by decide +kernel
theorem dX5_sets_0 : decode cX5_sets 0 = .ok (.iload_n 2, 1) := by decide +kernel
theorem dX5_sets_1 : decode cX5_sets 1 = .ok (.iload_n 3, 1) := by decide +kernel
theorem dX5_sets_2 : decode cX5_sets 2 = .ok (.iload 4, 2) := by decide +kernel
theorem dX5_sets_4 : decode cX5_sets 4 = .ok (.invokestatic 26, 3) := by decide +kernel
theorem dX5_sets_7 : decode cX5_sets 7 = .ok (.ifCond .ne 7, 3) := by decide +kernel
theorem dX5_sets_10 : decode cX5_sets 10 = .ok (.sipush (-10001), 3) := by decide +kernel
theorem dX5_sets_13 : decode cX5_sets 13 = .ok (.ireturn, 1) := by decide +kernel
theorem dX5_sets_14 : decode cX5_sets 14 = .ok (.aload_n 0, 1) := by decide +kernel
theorem dX5_sets_15 : decode cX5_sets 15 = .ok (.invokevirtual 34, 3) := by decide +kernel
theorem dX5_sets_18 : decode cX5_sets 18 = .ok (.aload_n 0, 1) := by decide +kernel
theorem dX5_sets_19 : decode cX5_sets 19 = .ok (.getfield 7, 3) := by decide +kernel
theorem dX5_sets_22 : decode cX5_sets 22 = .ok (.iload_n 1, 1) := by decide +kernel
theorem dX5_sets_23 : decode cX5_sets 23 = .ok (.iaload, 1) := by decide +kernel
theorem dX5_sets_24 : decode cX5_sets 24 = .ok (.istore 5, 2) := by decide +kernel
theorem dX5_sets_26 : decode cX5_sets 26 = .ok (.aload_n 0, 1) := by decide +kernel
theorem dX5_sets_27 : decode cX5_sets 27 = .ok (.getfield 7, 3) := by decide +kernel
theorem dX5_sets_30 : decode cX5_sets 30 = .ok (.iload_n 1, 1) := by decide +kernel
theorem dX5_sets_31 : decode cX5_sets 31 = .ok (.iload_n 2, 1) := by decide +kernel
theorem dX5_sets_32 : decode cX5_sets 32 = .ok (.iastore, 1) := by decide +kernel
theorem dX5_sets_33 : decode cX5_sets 33 = .ok (.iload 5, 2) := by decide +kernel
theorem dX5_sets_35 : decode cX5_sets 35 = .ok (.ireturn, 1) := by decide +kernel
theorem dX5_setRate_0 : decode cX5_setRate 0 = .ok (.aload_n 0, 1) := by decide +kernel
theorem dX5_setRate_1 : decode cX5_setRate 1 = .ok (.iconst 2, 1) := by decide +kernel
theorem dX5_setRate_2 : decode cX5_setRate 2 = .ok (.iload_n 1, 1) := by decide +kernel
theorem dX5_setRate_3 : decode cX5_setRate 3 = .ok (.bipush 50, 2) := by decide +kernel
theorem dX5_setRate_5 : decode cX5_setRate 5 = .ok (.sipush 200, 3) := by decide +kernel
theorem dX5_setRate_8 : decode cX5_setRate 8 = .ok (.invokevirtual 42, 3) := by decide +kernel
theorem dX5_setRate_11 : decode cX5_setRate 11 = .ok (.ireturn, 1) := by decide +kernel
theorem dX5_setBonus_0 : decode cX5_setBonus 0 = .ok (.aload_n 0, 1) := by decide +kernel
theorem dX5_setBonus_1 : decode cX5_setBonus 1 = .ok (.iconst 3, 1) := by decide +kernel
theorem dX5_setBonus_2 : decode cX5_setBonus 2 = .ok (.iload_n 1, 1) := by decide +kernel
theorem dX5_setBonus_3 : decode cX5_setBonus 3 = .ok (.iconst 0, 1) := by decide +kernel
theorem dX5_setBonus_4 : decode cX5_setBonus 4 = .ok (.sipush 500, 3) := by decide +kernel
theorem dX5_setBonus_7 : decode cX5_setBonus 7 = .ok (.invokevirtual 42, 3) := by decide +kernel
theorem dX5_setBonus_10 : decode cX5_setBonus 10 = .ok (.ireturn, 1) := by decide +kernel
theorem dX5_report_0 : decode cX5_report 0 = .ok (.aload_n 0, 1) := by decide +kernel
theorem dX5_report_1 : decode cX5_report 1 = .ok (.iload_n 1, 1) := by decide +kernel
theorem dX5_report_2 : decode cX5_report 2 = .ok (.invokevirtual 46, 3) := by decide +kernel
theorem dX5_report_5 : decode cX5_report 5 = .ok (.ifCond .eq 21, 3) := by decide +kernel
theorem dX5_report_8 : decode cX5_report 8 = .ok (.aload_n 0, 1) := by decide +kernel
theorem dX5_report_9 : decode cX5_report 9 = .ok (.iload_n 2, 1) := by decide +kernel
theorem dX5_report_10 : decode cX5_report 10 = .ok (.invokevirtual 50, 3) := by decide +kernel
theorem dX5_report_13 : decode cX5_report 13 = .ok (.ifCond .eq 13, 3) := by decide +kernel
theorem dX5_report_16 : decode cX5_report 16 = .ok (.iload_n 3, 1) := by decide +kernel
theorem dX5_report_17 : decode cX5_report 17 = .ok (.iconst 0, 1) := by decide +kernel
theorem dX5_report_18 : decode cX5_report 18 = .ok (.bipush 99, 2) := by decide +kernel
theorem dX5_report_20 : decode cX5_report 20 = .ok (.invokestatic 26, 3) := by decide +kernel
theorem dX5_report_23 : decode cX5_report 23 = .ok (.ifCond .ne 7, 3) := by decide +kernel
theorem dX5_report_26 : decode cX5_report 26 = .ok (.sipush (-10001), 3) := by decide +kernel
theorem dX5_report_29 : decode cX5_report 29 = .ok (.ireturn, 1) := by decide +kernel
theorem dX5_report_30 : decode cX5_report 30 = .ok (.aload_n 0, 1) := by decide +kernel
theorem dX5_report_31 : decode cX5_report 31 = .ok (.getfield 7, 3) := by decide +kernel
theorem dX5_report_34 : decode cX5_report 34 = .ok (.bipush 6, 2) := by decide +kernel
theorem dX5_report_36 : decode cX5_report 36 = .ok (.iaload, 1) := by decide +kernel
theorem dX5_report_37 : decode cX5_report 37 = .ok (.istore 4, 2) := by decide +kernel
theorem dX5_report_39 : decode cX5_report 39 = .ok (.iload 4, 2) := by decide +kernel
theorem dX5_report_41 : decode cX5_report 41 = .ok (.bipush 40, 2) := by decide +kernel
theorem dX5_report_43 : decode cX5_report 43 = .ok (.if_icmp .ne 7, 3) := by decide +kernel
theorem dX5_report_46 : decode cX5_report 46 = .ok (.sipush (-10003), 3) := by decide +kernel
theorem dX5_report_49 : decode cX5_report 49 = .ok (.ireturn, 1) := by decide +kernel
theorem dX5_report_50 : decode cX5_report 50 = .ok (.aload_n 0, 1) := by decide +kernel
theorem dX5_report_51 : decode cX5_report 51 = .ok (.invokevirtual 34, 3) := by decide +kernel
theorem dX5_report_54 : decode cX5_report 54 = .ok (.iconst 0, 1) := by decide +kernel
theorem dX5_report_55 : decode cX5_report 55 = .ok (.istore 5, 2) := by decide +kernel
theorem dX5_report_57 : decode cX5_report 57 = .ok (.iload 5, 2) := by decide +kernel
theorem dX5_report_59 : decode cX5_report 59 = .ok (.bipush 12, 2) := by decide +kernel
theorem dX5_report_61 : decode cX5_report 61 = .ok (.if_icmp .ge 22, 3) := by decide +kernel
theorem dX5_report_64 : decode cX5_report 64 = .ok (.aload_n 0, 1) := by decide +kernel
theorem dX5_report_65 : decode cX5_report 65 = .ok (.getfield 7, 3) := by decide +kernel
theorem dX5_report_68 : decode cX5_report 68 = .ok (.iload 4, 2) := by decide +kernel
theorem dX5_report_70 : decode cX5_report 70 = .ok (.iload 5, 2) := by decide +kernel
theorem dX5_report_72 : decode cX5_report 72 = .ok (.invokestatic 30, 3) := by decide +kernel
theorem dX5_report_75 : decode cX5_report 75 = .ok (.iconst 0, 1) := by decide +kernel
theorem dX5_report_76 : decode cX5_report 76 = .ok (.iastore, 1) := by decide +kernel
theorem dX5_report_77 : decode cX5_report 77 = .ok (.iinc 5 1, 3) := by decide +kernel
theorem dX5_report_80 : decode cX5_report 80 = .ok (.goto (-23), 3) := by decide +kernel
theorem dX5_report_83 : decode cX5_report 83 = .ok (.aload_n 0, 1) := by decide +kernel
theorem dX5_report_84 : decode cX5_report 84 = .ok (.getfield 7, 3) := by decide +kernel
theorem dX5_report_87 : decode cX5_report 87 = .ok (.iload 4, 2) := by decide +kernel
theorem dX5_report_89 : decode cX5_report 89 = .ok (.iconst 0, 1) := by decide +kernel
theorem dX5_report_90 : decode cX5_report 90 = .ok (.invokestatic 30, 3) := by decide +kernel
theorem dX5_report_93 : decode cX5_report 93 = .ok (.iload_n 1, 1) := by decide +kernel
theorem dX5_report_94 : decode cX5_report 94 = .ok (.iastore, 1) := by decide +kernel
theorem dX5_report_95 : decode cX5_report 95 = .ok (.aload_n 0, 1) := by decide +kernel
theorem dX5_report_96 : decode cX5_report 96 = .ok (.getfield 7, 3) := by decide +kernel
theorem dX5_report_99 : decode cX5_report 99 = .ok (.iload 4, 2) := by decide +kernel
theorem dX5_report_101 : decode cX5_report 101 = .ok (.iconst 1, 1) := by decide +kernel
theorem dX5_report_102 : decode cX5_report 102 = .ok (.invokestatic 30, 3) := by decide +kernel
theorem dX5_report_105 : decode cX5_report 105 = .ok (.iload_n 2, 1) := by decide +kernel
theorem dX5_report_106 : decode cX5_report 106 = .ok (.iastore, 1) := by decide +kernel
theorem dX5_report_107 : decode cX5_report 107 = .ok (.aload_n 0, 1) := by decide +kernel
theorem dX5_report_108 : decode cX5_report 108 = .ok (.getfield 7, 3) := by decide +kernel
theorem dX5_report_111 : decode cX5_report 111 = .ok (.iload 4, 2) := by decide +kernel
theorem dX5_report_113 : decode cX5_report 113 = .ok (.iconst 2, 1) := by decide +kernel
theorem dX5_report_114 : decode cX5_report 114 = .ok (.invokestatic 30, 3) := by decide +kernel
theorem dX5_report_117 : decode cX5_report 117 = .ok (.iload_n 3, 1) := by decide +kernel
theorem dX5_report_118 : decode cX5_report 118 = .ok (.iastore, 1) := by decide +kernel
theorem dX5_report_119 : decode cX5_report 119 = .ok (.aload_n 0, 1) := by decide +kernel
theorem dX5_report_120 : decode cX5_report 120 = .ok (.getfield 7, 3) := by decide +kernel
theorem dX5_report_123 : decode cX5_report 123 = .ok (.iload 4, 2) := by decide +kernel
theorem dX5_report_125 : decode cX5_report 125 = .ok (.iconst 5, 1) := by decide +kernel
theorem dX5_report_126 : decode cX5_report 126 = .ok (.invokestatic 30, 3) := by decide +kernel
theorem dX5_report_129 : decode cX5_report 129 = .ok (.sipush (-10009), 3) := by decide +kernel
theorem dX5_report_132 : decode cX5_report 132 = .ok (.iastore, 1) := by decide +kernel
theorem dX5_report_133 : decode cX5_report 133 = .ok (.aload_n 0, 1) := by decide +kernel
theorem dX5_report_134 : decode cX5_report 134 = .ok (.getfield 7, 3) := by decide +kernel
theorem dX5_report_137 : decode cX5_report 137 = .ok (.bipush 6, 2) := by decide +kernel
theorem dX5_report_139 : decode cX5_report 139 = .ok (.dup2, 1) := by decide +kernel
theorem dX5_report_140 : decode cX5_report 140 = .ok (.iaload, 1) := by decide +kernel
theorem dX5_report_141 : decode cX5_report 141 = .ok (.iconst 1, 1) := by decide +kernel
theorem dX5_report_142 : decode cX5_report 142 = .ok (.iadd, 1) := by decide +kernel
theorem dX5_report_143 : decode cX5_report 143 = .ok (.iastore, 1) := by decide +kernel
theorem dX5_report_144 : decode cX5_report 144 = .ok (.iload 4, 2) := by decide +kernel
theorem dX5_report_146 : decode cX5_report 146 = .ok (.ireturn, 1) := by decide +kernel
theorem dX5_originalOf_0 : decode cX5_originalOf 0 = .ok (.iconst 0, 1) := by decide +kernel
theorem dX5_originalOf_1 : decode cX5_originalOf 1 = .ok (.istore_n 2, 1) := by decide +kernel
theorem dX5_originalOf_2 : decode cX5_originalOf 2 = .ok (.iload_n 2, 1) := by decide +kernel
theorem dX5_originalOf_3 : decode cX5_originalOf 3 = .ok (.iload_n 1, 1) := by decide +kernel
theorem dX5_originalOf_4 : decode cX5_originalOf 4 = .ok (.if_icmp .ge 60, 3) := by decide +kernel
theorem dX5_originalOf_7 : decode cX5_originalOf 7 = .ok (.aload_n 0, 1) := by decide +kernel
theorem dX5_originalOf_8 : decode cX5_originalOf 8 = .ok (.iload_n 1, 1) := by decide +kernel
theorem dX5_originalOf_9 : decode cX5_originalOf 9 = .ok (.iconst 3, 1) := by decide +kernel
theorem dX5_originalOf_10 : decode cX5_originalOf 10 = .ok (.invokevirtual 53, 3) := by decide +kernel
theorem dX5_originalOf_13 : decode cX5_originalOf 13 = .ok (.ifCond .ne 51, 3) := by decide +kernel
theorem dX5_originalOf_16 : decode cX5_originalOf 16 = .ok (.aload_n 0, 1) := by decide +kernel
theorem dX5_originalOf_17 : decode cX5_originalOf 17 = .ok (.iload_n 2, 1) := by decide +kernel
theorem dX5_originalOf_18 : decode cX5_originalOf 18 = .ok (.iconst 1, 1) := by decide +kernel
theorem dX5_originalOf_19 : decode cX5_originalOf 19 = .ok (.invokevirtual 53, 3) := by decide +kernel
theorem dX5_originalOf_22 : decode cX5_originalOf 22 = .ok (.aload_n 0, 1) := by decide +kernel
theorem dX5_originalOf_23 : decode cX5_originalOf 23 = .ok (.iload_n 1, 1) := by decide +kernel
theorem dX5_originalOf_24 : decode cX5_originalOf 24 = .ok (.iconst 1, 1) := by decide +kernel
theorem dX5_originalOf_25 : decode cX5_originalOf 25 = .ok (.invokevirtual 53, 3) := by decide +kernel
theorem dX5_originalOf_28 : decode cX5_originalOf 28 = .ok (.if_icmp .ne 30, 3) := by decide +kernel
theorem dX5_originalOf_31 : decode cX5_originalOf 31 = .ok (.aload_n 0, 1) := by decide +kernel
theorem dX5_originalOf_32 : decode cX5_originalOf 32 = .ok (.iload_n 2, 1) := by decide +kernel
theorem dX5_originalOf_33 : decode cX5_originalOf 33 = .ok (.iconst 2, 1) := by decide +kernel
theorem dX5_originalOf_34 : decode cX5_originalOf 34 = .ok (.invokevirtual 53, 3) := by decide +kernel
theorem dX5_originalOf_37 : decode cX5_originalOf 37 = .ok (.aload_n 0, 1) := by decide +kernel
theorem dX5_originalOf_38 : decode cX5_originalOf 38 = .ok (.iload_n 1, 1) := by decide +kernel
theorem dX5_originalOf_39 : decode cX5_originalOf 39 = .ok (.iconst 2, 1) := by decide +kernel
theorem dX5_originalOf_40 : decode cX5_originalOf 40 = .ok (.invokevirtual 53, 3) := by decide +kernel
theorem dX5_originalOf_43 : decode cX5_originalOf 43 = .ok (.if_icmp .ne 15, 3) := by decide +kernel
theorem dX5_originalOf_46 : decode cX5_originalOf 46 = .ok (.aload_n 0, 1) := by decide +kernel
theorem dX5_originalOf_47 : decode cX5_originalOf 47 = .ok (.iload_n 2, 1) := by decide +kernel
theorem dX5_originalOf_48 : decode cX5_originalOf 48 = .ok (.iconst 3, 1) := by decide +kernel
theorem dX5_originalOf_49 : decode cX5_originalOf 49 = .ok (.invokevirtual 53, 3) := by decide +kernel
theorem dX5_originalOf_52 : decode cX5_originalOf 52 = .ok (.iconst 4, 1) := by decide +kernel
theorem dX5_originalOf_53 : decode cX5_originalOf 53 = .ok (.if_icmp .ge 5, 3) := by decide +kernel
theorem dX5_originalOf_56 : decode cX5_originalOf 56 = .ok (.iload_n 2, 1) := by decide +kernel
theorem dX5_originalOf_57 : decode cX5_originalOf 57 = .ok (.ireturn, 1) := by decide +kernel
theorem dX5_originalOf_58 : decode cX5_originalOf 58 = .ok (.iinc 2 1, 3) := by decide +kernel
theorem dX5_originalOf_61 : decode cX5_originalOf 61 = .ok (.goto (-59), 3) := by decide +kernel
theorem dX5_originalOf_64 : decode cX5_originalOf 64 = .ok (.sipush (-10009), 3) := by decide +kernel
theorem dX5_originalOf_67 : decode cX5_originalOf 67 = .ok (.ireturn, 1) := by decide +kernel
theorem dX5_original_0 : decode cX5_original 0 = .ok (.aload_n 0, 1) := by decide +kernel
theorem dX5_original_1 : decode cX5_original 1 = .ok (.iload_n 1, 1) := by decide +kernel
theorem dX5_original_2 : decode cX5_original 2 = .ok (.invokevirtual 56, 3) := by decide +kernel
theorem dX5_original_5 : decode cX5_original 5 = .ok (.ifCond .eq 11, 3) := by decide +kernel
theorem dX5_original_8 : decode cX5_original 8 = .ok (.aload_n 0, 1) := by decide +kernel
theorem dX5_original_9 : decode cX5_original 9 = .ok (.iload_n 1, 1) := by decide +kernel
theorem dX5_original_10 : decode cX5_original 10 = .ok (.invokevirtual 59, 3) := by decide +kernel
theorem dX5_original_13 : decode cX5_original 13 = .ok (.goto 6, 3) := by decide +kernel
theorem dX5_original_16 : decode cX5_original 16 = .ok (.sipush (-10001), 3) := by decide +kernel
theorem dX5_original_19 : decode cX5_original 19 = .ok (.ireturn, 1) := by decide +kernel
theorem dX5_fold_0 : decode cX5_fold 0 = .ok (.aload_n 0, 1) := by decide +kernel
theorem dX5_fold_1 : decode cX5_fold 1 = .ok (.iload_n 1, 1) := by decide +kernel
theorem dX5_fold_2 : decode cX5_fold 2 = .ok (.invokevirtual 56, 3) := by decide +kernel
theorem dX5_fold_5 : decode cX5_fold 5 = .ok (.ifCond .ne 7, 3) := by decide +kernel
theorem dX5_fold_8 : decode cX5_fold 8 = .ok (.sipush (-10001), 3) := by decide +kernel
theorem dX5_fold_11 : decode cX5_fold 11 = .ok (.ireturn, 1) := by decide +kernel
theorem dX5_fold_12 : decode cX5_fold 12 = .ok (.aload_n 0, 1) := by decide +kernel
theorem dX5_fold_13 : decode cX5_fold 13 = .ok (.iload_n 1, 1) := by decide +kernel
theorem dX5_fold_14 : decode cX5_fold 14 = .ok (.invokevirtual 59, 3) := by decide +kernel
theorem dX5_fold_17 : decode cX5_fold 17 = .ok (.istore_n 2, 1) := by decide +kernel
theorem dX5_fold_18 : decode cX5_fold 18 = .ok (.iload_n 2, 1) := by decide +kernel
theorem dX5_fold_19 : decode cX5_fold 19 = .ok (.sipush (-10009), 3) := by decide +kernel
theorem dX5_fold_22 : decode cX5_fold 22 = .ok (.if_icmp .ne 7, 3) := by decide +kernel
theorem dX5_fold_25 : decode cX5_fold 25 = .ok (.sipush (-10002), 3) := by decide +kernel
theorem dX5_fold_28 : decode cX5_fold 28 = .ok (.ireturn, 1) := by decide +kernel
theorem dX5_fold_29 : decode cX5_fold 29 = .ok (.aload_n 0, 1) := by decide +kernel
theorem dX5_fold_30 : decode cX5_fold 30 = .ok (.invokevirtual 34, 3) := by decide +kernel
theorem dX5_fold_33 : decode cX5_fold 33 = .ok (.aload_n 0, 1) := by decide +kernel
theorem dX5_fold_34 : decode cX5_fold 34 = .ok (.getfield 7, 3) := by decide +kernel
theorem dX5_fold_37 : decode cX5_fold 37 = .ok (.iload_n 1, 1) := by decide +kernel
theorem dX5_fold_38 : decode cX5_fold 38 = .ok (.iconst 3, 1) := by decide +kernel
theorem dX5_fold_39 : decode cX5_fold 39 = .ok (.invokestatic 30, 3) := by decide +kernel
theorem dX5_fold_42 : decode cX5_fold 42 = .ok (.iconst 5, 1) := by decide +kernel
theorem dX5_fold_43 : decode cX5_fold 43 = .ok (.iastore, 1) := by decide +kernel
theorem dX5_fold_44 : decode cX5_fold 44 = .ok (.aload_n 0, 1) := by decide +kernel
theorem dX5_fold_45 : decode cX5_fold 45 = .ok (.getfield 7, 3) := by decide +kernel
theorem dX5_fold_48 : decode cX5_fold 48 = .ok (.iload_n 1, 1) := by decide +kernel
theorem dX5_fold_49 : decode cX5_fold 49 = .ok (.iconst 5, 1) := by decide +kernel
theorem dX5_fold_50 : decode cX5_fold 50 = .ok (.invokestatic 30, 3) := by decide +kernel
theorem dX5_fold_53 : decode cX5_fold 53 = .ok (.iload_n 2, 1) := by decide +kernel
theorem dX5_fold_54 : decode cX5_fold 54 = .ok (.iastore, 1) := by decide +kernel
theorem dX5_fold_55 : decode cX5_fold 55 = .ok (.iload_n 2, 1) := by decide +kernel
theorem dX5_fold_56 : decode cX5_fold 56 = .ok (.ireturn, 1) := by decide +kernel
theorem dX5_unfolds_0 : decode cX5_unfolds 0 = .ok (.iconst 0, 1) := by decide +kernel
theorem dX5_unfolds_1 : decode cX5_unfolds 1 = .ok (.istore_n 2, 1) := by decide +kernel
theorem dX5_unfolds_2 : decode cX5_unfolds 2 = .ok (.iconst 0, 1) := by decide +kernel
theorem dX5_unfolds_3 : decode cX5_unfolds 3 = .ok (.istore_n 3, 1) := by decide +kernel
theorem dX5_unfolds_4 : decode cX5_unfolds 4 = .ok (.iload_n 3, 1) := by decide +kernel
theorem dX5_unfolds_5 : decode cX5_unfolds 5 = .ok (.aload_n 0, 1) := by decide +kernel
theorem dX5_unfolds_6 : decode cX5_unfolds 6 = .ok (.getfield 7, 3) := by decide +kernel
theorem dX5_unfolds_9 : decode cX5_unfolds 9 = .ok (.bipush 6, 2) := by decide +kernel
theorem dX5_unfolds_11 : decode cX5_unfolds 11 = .ok (.iaload, 1) := by decide +kernel
theorem dX5_unfolds_12 : decode cX5_unfolds 12 = .ok (.if_icmp .ge 56, 3) := by decide +kernel
theorem dX5_unfolds_15 : decode cX5_unfolds 15 = .ok (.aload_n 0, 1) := by decide +kernel
theorem dX5_unfolds_16 : decode cX5_unfolds 16 = .ok (.iload_n 3, 1) := by decide +kernel
theorem dX5_unfolds_17 : decode cX5_unfolds 17 = .ok (.iconst 3, 1) := by decide +kernel
theorem dX5_unfolds_18 : decode cX5_unfolds 18 = .ok (.invokevirtual 53, 3) := by decide +kernel
theorem dX5_unfolds_21 : decode cX5_unfolds 21 = .ok (.iconst 5, 1) := by decide +kernel
theorem dX5_unfolds_22 : decode cX5_unfolds 22 = .ok (.if_icmp .ne 40, 3) := by decide +kernel
theorem dX5_unfolds_25 : decode cX5_unfolds 25 = .ok (.aload_n 0, 1) := by decide +kernel
theorem dX5_unfolds_26 : decode cX5_unfolds 26 = .ok (.iload_n 3, 1) := by decide +kernel
theorem dX5_unfolds_27 : decode cX5_unfolds 27 = .ok (.iconst 5, 1) := by decide +kernel
theorem dX5_unfolds_28 : decode cX5_unfolds 28 = .ok (.invokevirtual 53, 3) := by decide +kernel
theorem dX5_unfolds_31 : decode cX5_unfolds 31 = .ok (.iload_n 1, 1) := by decide +kernel
theorem dX5_unfolds_32 : decode cX5_unfolds 32 = .ok (.if_icmp .ne 30, 3) := by decide +kernel
theorem dX5_unfolds_35 : decode cX5_unfolds 35 = .ok (.aload_n 0, 1) := by decide +kernel
theorem dX5_unfolds_36 : decode cX5_unfolds 36 = .ok (.getfield 7, 3) := by decide +kernel
theorem dX5_unfolds_39 : decode cX5_unfolds 39 = .ok (.iload_n 3, 1) := by decide +kernel
theorem dX5_unfolds_40 : decode cX5_unfolds 40 = .ok (.iconst 3, 1) := by decide +kernel
theorem dX5_unfolds_41 : decode cX5_unfolds 41 = .ok (.invokestatic 30, 3) := by decide +kernel
theorem dX5_unfolds_44 : decode cX5_unfolds 44 = .ok (.iconst 0, 1) := by decide +kernel
theorem dX5_unfolds_45 : decode cX5_unfolds 45 = .ok (.iastore, 1) := by decide +kernel
theorem dX5_unfolds_46 : decode cX5_unfolds 46 = .ok (.aload_n 0, 1) := by decide +kernel
theorem dX5_unfolds_47 : decode cX5_unfolds 47 = .ok (.getfield 7, 3) := by decide +kernel
theorem dX5_unfolds_50 : decode cX5_unfolds 50 = .ok (.iload_n 3, 1) := by decide +kernel
theorem dX5_unfolds_51 : decode cX5_unfolds 51 = .ok (.iconst 5, 1) := by decide +kernel
theorem dX5_unfolds_52 : decode cX5_unfolds 52 = .ok (.invokestatic 30, 3) := by decide +kernel
theorem dX5_unfolds_55 : decode cX5_unfolds 55 = .ok (.sipush (-10009), 3) := by decide +kernel
theorem dX5_unfolds_58 : decode cX5_unfolds 58 = .ok (.iastore, 1) := by decide +kernel
theorem dX5_unfolds_59 : decode cX5_unfolds 59 = .ok (.iinc 2 1, 3) := by decide +kernel
theorem dX5_unfolds_62 : decode cX5_unfolds 62 = .ok (.iinc 3 1, 3) := by decide +kernel
theorem dX5_unfolds_65 : decode cX5_unfolds 65 = .ok (.goto (-61), 3) := by decide +kernel
theorem dX5_unfolds_68 : decode cX5_unfolds 68 = .ok (.iload_n 2, 1) := by decide +kernel
theorem dX5_unfolds_69 : decode cX5_unfolds 69 = .ok (.ireturn, 1) := by decide +kernel
theorem dX5_priceBy_0 : decode cX5_priceBy 0 = .ok (.iload_n 2, 1) := by decide +kernel
theorem dX5_priceBy_1 : decode cX5_priceBy 1 = .ok (.iload_n 2, 1) := by decide +kernel
theorem dX5_priceBy_2 : decode cX5_priceBy 2 = .ok (.imul, 1) := by decide +kernel
theorem dX5_priceBy_3 : decode cX5_priceBy 3 = .ok (.aload_n 0, 1) := by decide +kernel
theorem dX5_priceBy_4 : decode cX5_priceBy 4 = .ok (.getfield 7, 3) := by decide +kernel
theorem dX5_priceBy_7 : decode cX5_priceBy 7 = .ok (.aload_n 0, 1) := by decide +kernel
theorem dX5_priceBy_8 : decode cX5_priceBy 8 = .ok (.iload_n 1, 1) := by decide +kernel
theorem dX5_priceBy_9 : decode cX5_priceBy 9 = .ok (.iconst 1, 1) := by decide +kernel
theorem dX5_priceBy_10 : decode cX5_priceBy 10 = .ok (.invokevirtual 53, 3) := by decide +kernel
theorem dX5_priceBy_13 : decode cX5_priceBy 13 = .ok (.iconst 0, 1) := by decide +kernel
theorem dX5_priceBy_14 : decode cX5_priceBy 14 = .ok (.invokestatic 37, 3) := by decide +kernel
theorem dX5_priceBy_17 : decode cX5_priceBy 17 = .ok (.iaload, 1) := by decide +kernel
theorem dX5_priceBy_18 : decode cX5_priceBy 18 = .ok (.imul, 1) := by decide +kernel
theorem dX5_priceBy_19 : decode cX5_priceBy 19 = .ok (.bipush 10, 2) := by decide +kernel
theorem dX5_priceBy_21 : decode cX5_priceBy 21 = .ok (.imul, 1) := by decide +kernel
theorem dX5_priceBy_22 : decode cX5_priceBy 22 = .ok (.aload_n 0, 1) := by decide +kernel
theorem dX5_priceBy_23 : decode cX5_priceBy 23 = .ok (.getfield 7, 3) := by decide +kernel
theorem dX5_priceBy_26 : decode cX5_priceBy 26 = .ok (.iconst 2, 1) := by decide +kernel
theorem dX5_priceBy_27 : decode cX5_priceBy 27 = .ok (.iaload, 1) := by decide +kernel
theorem dX5_priceBy_28 : decode cX5_priceBy 28 = .ok (.imul, 1) := by decide +kernel
theorem dX5_priceBy_29 : decode cX5_priceBy 29 = .ok (.bipush 100, 2) := by decide +kernel
theorem dX5_priceBy_31 : decode cX5_priceBy 31 = .ok (.idiv, 1) := by decide +kernel
theorem dX5_priceBy_32 : decode cX5_priceBy 32 = .ok (.ireturn, 1) := by decide +kernel
theorem dX5_price_0 : decode cX5_price 0 = .ok (.aload_n 0, 1) := by decide +kernel
theorem dX5_price_1 : decode cX5_price 1 = .ok (.iload_n 1, 1) := by decide +kernel
theorem dX5_price_2 : decode cX5_price 2 = .ok (.aload_n 0, 1) := by decide +kernel
theorem dX5_price_3 : decode cX5_price 3 = .ok (.iload_n 1, 1) := by decide +kernel
theorem dX5_price_4 : decode cX5_price 4 = .ok (.iconst 4, 1) := by decide +kernel
theorem dX5_price_5 : decode cX5_price 5 = .ok (.invokevirtual 53, 3) := by decide +kernel
theorem dX5_price_8 : decode cX5_price 8 = .ok (.invokevirtual 63, 3) := by decide +kernel
theorem dX5_price_11 : decode cX5_price 11 = .ok (.ireturn, 1) := by decide +kernel
theorem dX5_isDue_0 : decode cX5_isDue 0 = .ok (.aload_n 0, 1) := by decide +kernel
theorem dX5_isDue_1 : decode cX5_isDue 1 = .ok (.iload_n 1, 1) := by decide +kernel
theorem dX5_isDue_2 : decode cX5_isDue 2 = .ok (.iconst 3, 1) := by decide +kernel
theorem dX5_isDue_3 : decode cX5_isDue 3 = .ok (.invokevirtual 53, 3) := by decide +kernel
theorem dX5_isDue_6 : decode cX5_isDue 6 = .ok (.iconst 1, 1) := by decide +kernel
theorem dX5_isDue_7 : decode cX5_isDue 7 = .ok (.if_icmp .eq 13, 3) := by decide +kernel
theorem dX5_isDue_10 : decode cX5_isDue 10 = .ok (.aload_n 0, 1) := by decide +kernel
theorem dX5_isDue_11 : decode cX5_isDue 11 = .ok (.iload_n 1, 1) := by decide +kernel
theorem dX5_isDue_12 : decode cX5_isDue 12 = .ok (.iconst 3, 1) := by decide +kernel
theorem dX5_isDue_13 : decode cX5_isDue 13 = .ok (.invokevirtual 53, 3) := by decide +kernel
theorem dX5_isDue_16 : decode cX5_isDue 16 = .ok (.iconst 2, 1) := by decide +kernel
theorem dX5_isDue_17 : decode cX5_isDue 17 = .ok (.if_icmp .ne 7, 3) := by decide +kernel
theorem dX5_isDue_20 : decode cX5_isDue 20 = .ok (.iconst 1, 1) := by decide +kernel
theorem dX5_isDue_21 : decode cX5_isDue 21 = .ok (.goto 4, 3) := by decide +kernel
theorem dX5_isDue_24 : decode cX5_isDue 24 = .ok (.iconst 0, 1) := by decide +kernel
theorem dX5_isDue_25 : decode cX5_isDue 25 = .ok (.ireturn, 1) := by decide +kernel
theorem dX5_isOpen_0 : decode cX5_isOpen 0 = .ok (.aload_n 0, 1) := by decide +kernel
theorem dX5_isOpen_1 : decode cX5_isOpen 1 = .ok (.iload_n 1, 1) := by decide +kernel
theorem dX5_isOpen_2 : decode cX5_isOpen 2 = .ok (.bipush 6, 2) := by decide +kernel
theorem dX5_isOpen_4 : decode cX5_isOpen 4 = .ok (.invokevirtual 53, 3) := by decide +kernel
theorem dX5_isOpen_7 : decode cX5_isOpen 7 = .ok (.iconst 1, 1) := by decide +kernel
theorem dX5_isOpen_8 : decode cX5_isOpen 8 = .ok (.if_icmp .ne 7, 3) := by decide +kernel
theorem dX5_isOpen_11 : decode cX5_isOpen 11 = .ok (.iconst 1, 1) := by decide +kernel
theorem dX5_isOpen_12 : decode cX5_isOpen 12 = .ok (.goto 4, 3) := by decide +kernel
theorem dX5_isOpen_15 : decode cX5_isOpen 15 = .ok (.iconst 0, 1) := by decide +kernel
theorem dX5_isOpen_16 : decode cX5_isOpen 16 = .ok (.ireturn, 1) := by decide +kernel
theorem dX5_grade_0 : decode cX5_grade 0 = .ok (.aload_n 0, 1) := by decide +kernel
theorem dX5_grade_1 : decode cX5_grade 1 = .ok (.iload_n 1, 1) := by decide +kernel
theorem dX5_grade_2 : decode cX5_grade 2 = .ok (.invokevirtual 56, 3) := by decide +kernel
theorem dX5_grade_5 : decode cX5_grade 5 = .ok (.ifCond .eq 12, 3) := by decide +kernel
theorem dX5_grade_8 : decode cX5_grade 8 = .ok (.iload_n 2, 1) := by decide +kernel
theorem dX5_grade_9 : decode cX5_grade 9 = .ok (.iconst 1, 1) := by decide +kernel
theorem dX5_grade_10 : decode cX5_grade 10 = .ok (.iconst 4, 1) := by decide +kernel
theorem dX5_grade_11 : decode cX5_grade 11 = .ok (.invokestatic 26, 3) := by decide +kernel
theorem dX5_grade_14 : decode cX5_grade 14 = .ok (.ifCond .ne 7, 3) := by decide +kernel
theorem dX5_grade_17 : decode cX5_grade 17 = .ok (.sipush (-10001), 3) := by decide +kernel
theorem dX5_grade_20 : decode cX5_grade 20 = .ok (.ireturn, 1) := by decide +kernel
theorem dX5_grade_21 : decode cX5_grade 21 = .ok (.aload_n 0, 1) := by decide +kernel
theorem dX5_grade_22 : decode cX5_grade 22 = .ok (.iload_n 1, 1) := by decide +kernel
theorem dX5_grade_23 : decode cX5_grade 23 = .ok (.iconst 3, 1) := by decide +kernel
theorem dX5_grade_24 : decode cX5_grade 24 = .ok (.invokevirtual 53, 3) := by decide +kernel
theorem dX5_grade_27 : decode cX5_grade 27 = .ok (.ifCond .eq 7, 3) := by decide +kernel
theorem dX5_grade_30 : decode cX5_grade 30 = .ok (.sipush (-10002), 3) := by decide +kernel
theorem dX5_grade_33 : decode cX5_grade 33 = .ok (.ireturn, 1) := by decide +kernel
theorem dX5_grade_34 : decode cX5_grade 34 = .ok (.aload_n 0, 1) := by decide +kernel
theorem dX5_grade_35 : decode cX5_grade 35 = .ok (.invokevirtual 34, 3) := by decide +kernel
theorem dX5_grade_38 : decode cX5_grade 38 = .ok (.aload_n 0, 1) := by decide +kernel
theorem dX5_grade_39 : decode cX5_grade 39 = .ok (.getfield 7, 3) := by decide +kernel
theorem dX5_grade_42 : decode cX5_grade 42 = .ok (.iload_n 1, 1) := by decide +kernel
theorem dX5_grade_43 : decode cX5_grade 43 = .ok (.iconst 3, 1) := by decide +kernel
theorem dX5_grade_44 : decode cX5_grade 44 = .ok (.invokestatic 30, 3) := by decide +kernel
theorem dX5_grade_47 : decode cX5_grade 47 = .ok (.iconst 1, 1) := by decide +kernel
theorem dX5_grade_48 : decode cX5_grade 48 = .ok (.iastore, 1) := by decide +kernel
theorem dX5_grade_49 : decode cX5_grade 49 = .ok (.aload_n 0, 1) := by decide +kernel
theorem dX5_grade_50 : decode cX5_grade 50 = .ok (.getfield 7, 3) := by decide +kernel
theorem dX5_grade_53 : decode cX5_grade 53 = .ok (.iload_n 1, 1) := by decide +kernel
theorem dX5_grade_54 : decode cX5_grade 54 = .ok (.iconst 4, 1) := by decide +kernel
theorem dX5_grade_55 : decode cX5_grade 55 = .ok (.invokestatic 30, 3) := by decide +kernel
theorem dX5_grade_58 : decode cX5_grade 58 = .ok (.iload_n 2, 1) := by decide +kernel
theorem dX5_grade_59 : decode cX5_grade 59 = .ok (.iastore, 1) := by decide +kernel
theorem dX5_grade_60 : decode cX5_grade 60 = .ok (.aload_n 0, 1) := by decide +kernel
theorem dX5_grade_61 : decode cX5_grade 61 = .ok (.iload_n 1, 1) := by decide +kernel
theorem dX5_grade_62 : decode cX5_grade 62 = .ok (.invokevirtual 66, 3) := by decide +kernel
theorem dX5_grade_65 : decode cX5_grade 65 = .ok (.ireturn, 1) := by decide +kernel
theorem dX5_refuse_0 : decode cX5_refuse 0 = .ok (.aload_n 0, 1) := by decide +kernel
theorem dX5_refuse_1 : decode cX5_refuse 1 = .ok (.iload_n 1, 1) := by decide +kernel
theorem dX5_refuse_2 : decode cX5_refuse 2 = .ok (.invokevirtual 56, 3) := by decide +kernel
theorem dX5_refuse_5 : decode cX5_refuse 5 = .ok (.ifCond .ne 7, 3) := by decide +kernel
theorem dX5_refuse_8 : decode cX5_refuse 8 = .ok (.sipush (-10001), 3) := by decide +kernel
theorem dX5_refuse_11 : decode cX5_refuse 11 = .ok (.ireturn, 1) := by decide +kernel
theorem dX5_refuse_12 : decode cX5_refuse 12 = .ok (.aload_n 0, 1) := by decide +kernel
theorem dX5_refuse_13 : decode cX5_refuse 13 = .ok (.iload_n 1, 1) := by decide +kernel
theorem dX5_refuse_14 : decode cX5_refuse 14 = .ok (.iconst 3, 1) := by decide +kernel
theorem dX5_refuse_15 : decode cX5_refuse 15 = .ok (.invokevirtual 53, 3) := by decide +kernel
theorem dX5_refuse_18 : decode cX5_refuse 18 = .ok (.iconst 3, 1) := by decide +kernel
theorem dX5_refuse_19 : decode cX5_refuse 19 = .ok (.if_icmp .ge 11, 3) := by decide +kernel
theorem dX5_refuse_22 : decode cX5_refuse 22 = .ok (.aload_n 0, 1) := by decide +kernel
theorem dX5_refuse_23 : decode cX5_refuse 23 = .ok (.iload_n 1, 1) := by decide +kernel
theorem dX5_refuse_24 : decode cX5_refuse 24 = .ok (.invokevirtual 69, 3) := by decide +kernel
theorem dX5_refuse_27 : decode cX5_refuse 27 = .ok (.ifCond .eq 7, 3) := by decide +kernel
theorem dX5_refuse_30 : decode cX5_refuse 30 = .ok (.sipush (-10002), 3) := by decide +kernel
theorem dX5_refuse_33 : decode cX5_refuse 33 = .ok (.ireturn, 1) := by decide +kernel
theorem dX5_refuse_34 : decode cX5_refuse 34 = .ok (.aload_n 0, 1) := by decide +kernel
theorem dX5_refuse_35 : decode cX5_refuse 35 = .ok (.invokevirtual 34, 3) := by decide +kernel
theorem dX5_refuse_38 : decode cX5_refuse 38 = .ok (.aload_n 0, 1) := by decide +kernel
theorem dX5_refuse_39 : decode cX5_refuse 39 = .ok (.getfield 7, 3) := by decide +kernel
theorem dX5_refuse_42 : decode cX5_refuse 42 = .ok (.iload_n 1, 1) := by decide +kernel
theorem dX5_refuse_43 : decode cX5_refuse 43 = .ok (.iconst 3, 1) := by decide +kernel
theorem dX5_refuse_44 : decode cX5_refuse 44 = .ok (.invokestatic 30, 3) := by decide +kernel
theorem dX5_refuse_47 : decode cX5_refuse 47 = .ok (.iconst 4, 1) := by decide +kernel
theorem dX5_refuse_48 : decode cX5_refuse 48 = .ok (.iastore, 1) := by decide +kernel
theorem dX5_refuse_49 : decode cX5_refuse 49 = .ok (.aload_n 0, 1) := by decide +kernel
theorem dX5_refuse_50 : decode cX5_refuse 50 = .ok (.iload_n 1, 1) := by decide +kernel
theorem dX5_refuse_51 : decode cX5_refuse 51 = .ok (.invokevirtual 72, 3) := by decide +kernel
theorem dX5_refuse_54 : decode cX5_refuse 54 = .ok (.ireturn, 1) := by decide +kernel
theorem dX5_appeal_0 : decode cX5_appeal 0 = .ok (.aload_n 0, 1) := by decide +kernel
theorem dX5_appeal_1 : decode cX5_appeal 1 = .ok (.iload_n 1, 1) := by decide +kernel
theorem dX5_appeal_2 : decode cX5_appeal 2 = .ok (.invokevirtual 56, 3) := by decide +kernel
theorem dX5_appeal_5 : decode cX5_appeal 5 = .ok (.ifCond .eq 12, 3) := by decide +kernel
theorem dX5_appeal_8 : decode cX5_appeal 8 = .ok (.iload_n 2, 1) := by decide +kernel
theorem dX5_appeal_9 : decode cX5_appeal 9 = .ok (.iconst 2, 1) := by decide +kernel
theorem dX5_appeal_10 : decode cX5_appeal 10 = .ok (.iconst 4, 1) := by decide +kernel
theorem dX5_appeal_11 : decode cX5_appeal 11 = .ok (.invokestatic 26, 3) := by decide +kernel
theorem dX5_appeal_14 : decode cX5_appeal 14 = .ok (.ifCond .ne 7, 3) := by decide +kernel
theorem dX5_appeal_17 : decode cX5_appeal 17 = .ok (.sipush (-10001), 3) := by decide +kernel
theorem dX5_appeal_20 : decode cX5_appeal 20 = .ok (.ireturn, 1) := by decide +kernel
theorem dX5_appeal_21 : decode cX5_appeal 21 = .ok (.aload_n 0, 1) := by decide +kernel
theorem dX5_appeal_22 : decode cX5_appeal 22 = .ok (.iload_n 1, 1) := by decide +kernel
theorem dX5_appeal_23 : decode cX5_appeal 23 = .ok (.invokevirtual 75, 3) := by decide +kernel
theorem dX5_appeal_26 : decode cX5_appeal 26 = .ok (.ifCond .eq 23, 3) := by decide +kernel
theorem dX5_appeal_29 : decode cX5_appeal 29 = .ok (.aload_n 0, 1) := by decide +kernel
theorem dX5_appeal_30 : decode cX5_appeal 30 = .ok (.iload_n 1, 1) := by decide +kernel
theorem dX5_appeal_31 : decode cX5_appeal 31 = .ok (.bipush 6, 2) := by decide +kernel
theorem dX5_appeal_33 : decode cX5_appeal 33 = .ok (.invokevirtual 53, 3) := by decide +kernel
theorem dX5_appeal_36 : decode cX5_appeal 36 = .ok (.ifCond .ne 13, 3) := by decide +kernel
theorem dX5_appeal_39 : decode cX5_appeal 39 = .ok (.iload_n 2, 1) := by decide +kernel
theorem dX5_appeal_40 : decode cX5_appeal 40 = .ok (.aload_n 0, 1) := by decide +kernel
theorem dX5_appeal_41 : decode cX5_appeal 41 = .ok (.iload_n 1, 1) := by decide +kernel
theorem dX5_appeal_42 : decode cX5_appeal 42 = .ok (.iconst 4, 1) := by decide +kernel
theorem dX5_appeal_43 : decode cX5_appeal 43 = .ok (.invokevirtual 53, 3) := by decide +kernel
theorem dX5_appeal_46 : decode cX5_appeal 46 = .ok (.if_icmp .gt 7, 3) := by decide +kernel
theorem dX5_appeal_49 : decode cX5_appeal 49 = .ok (.sipush (-10002), 3) := by decide +kernel
theorem dX5_appeal_52 : decode cX5_appeal 52 = .ok (.ireturn, 1) := by decide +kernel
theorem dX5_appeal_53 : decode cX5_appeal 53 = .ok (.aload_n 0, 1) := by decide +kernel
theorem dX5_appeal_54 : decode cX5_appeal 54 = .ok (.invokevirtual 34, 3) := by decide +kernel
theorem dX5_appeal_57 : decode cX5_appeal 57 = .ok (.aload_n 0, 1) := by decide +kernel
theorem dX5_appeal_58 : decode cX5_appeal 58 = .ok (.getfield 7, 3) := by decide +kernel
theorem dX5_appeal_61 : decode cX5_appeal 61 = .ok (.iload_n 1, 1) := by decide +kernel
theorem dX5_appeal_62 : decode cX5_appeal 62 = .ok (.bipush 6, 2) := by decide +kernel
theorem dX5_appeal_64 : decode cX5_appeal 64 = .ok (.invokestatic 30, 3) := by decide +kernel
theorem dX5_appeal_67 : decode cX5_appeal 67 = .ok (.iconst 1, 1) := by decide +kernel
theorem dX5_appeal_68 : decode cX5_appeal 68 = .ok (.iastore, 1) := by decide +kernel
theorem dX5_appeal_69 : decode cX5_appeal 69 = .ok (.aload_n 0, 1) := by decide +kernel
theorem dX5_appeal_70 : decode cX5_appeal 70 = .ok (.getfield 7, 3) := by decide +kernel
theorem dX5_appeal_73 : decode cX5_appeal 73 = .ok (.iload_n 1, 1) := by decide +kernel
theorem dX5_appeal_74 : decode cX5_appeal 74 = .ok (.bipush 7, 2) := by decide +kernel
theorem dX5_appeal_76 : decode cX5_appeal 76 = .ok (.invokestatic 30, 3) := by decide +kernel
theorem dX5_appeal_79 : decode cX5_appeal 79 = .ok (.iload_n 2, 1) := by decide +kernel
theorem dX5_appeal_80 : decode cX5_appeal 80 = .ok (.iastore, 1) := by decide +kernel
theorem dX5_appeal_81 : decode cX5_appeal 81 = .ok (.aload_n 0, 1) := by decide +kernel
theorem dX5_appeal_82 : decode cX5_appeal 82 = .ok (.iload_n 1, 1) := by decide +kernel
theorem dX5_appeal_83 : decode cX5_appeal 83 = .ok (.iload_n 2, 1) := by decide +kernel
theorem dX5_appeal_84 : decode cX5_appeal 84 = .ok (.invokevirtual 63, 3) := by decide +kernel
theorem dX5_appeal_87 : decode cX5_appeal 87 = .ok (.ireturn, 1) := by decide +kernel
theorem dX5_decide_0 : decode cX5_decide 0 = .ok (.aload_n 0, 1) := by decide +kernel
theorem dX5_decide_1 : decode cX5_decide 1 = .ok (.iload_n 1, 1) := by decide +kernel
theorem dX5_decide_2 : decode cX5_decide 2 = .ok (.invokevirtual 56, 3) := by decide +kernel
theorem dX5_decide_5 : decode cX5_decide 5 = .ok (.ifCond .ne 7, 3) := by decide +kernel
theorem dX5_decide_8 : decode cX5_decide 8 = .ok (.sipush (-10001), 3) := by decide +kernel
theorem dX5_decide_11 : decode cX5_decide 11 = .ok (.ireturn, 1) := by decide +kernel
theorem dX5_decide_12 : decode cX5_decide 12 = .ok (.aload_n 0, 1) := by decide +kernel
theorem dX5_decide_13 : decode cX5_decide 13 = .ok (.iload_n 1, 1) := by decide +kernel
theorem dX5_decide_14 : decode cX5_decide 14 = .ok (.invokevirtual 69, 3) := by decide +kernel
theorem dX5_decide_17 : decode cX5_decide 17 = .ok (.ifCond .ne 7, 3) := by decide +kernel
theorem dX5_decide_20 : decode cX5_decide 20 = .ok (.sipush (-10002), 3) := by decide +kernel
theorem dX5_decide_23 : decode cX5_decide 23 = .ok (.ireturn, 1) := by decide +kernel
theorem dX5_decide_24 : decode cX5_decide 24 = .ok (.aload_n 0, 1) := by decide +kernel
theorem dX5_decide_25 : decode cX5_decide 25 = .ok (.iload_n 1, 1) := by decide +kernel
theorem dX5_decide_26 : decode cX5_decide 26 = .ok (.iconst 4, 1) := by decide +kernel
theorem dX5_decide_27 : decode cX5_decide 27 = .ok (.invokevirtual 53, 3) := by decide +kernel
theorem dX5_decide_30 : decode cX5_decide 30 = .ok (.istore_n 3, 1) := by decide +kernel
theorem dX5_decide_31 : decode cX5_decide 31 = .ok (.iload_n 2, 1) := by decide +kernel
theorem dX5_decide_32 : decode cX5_decide 32 = .ok (.iload_n 3, 1) := by decide +kernel
theorem dX5_decide_33 : decode cX5_decide 33 = .ok (.aload_n 0, 1) := by decide +kernel
theorem dX5_decide_34 : decode cX5_decide 34 = .ok (.iload_n 1, 1) := by decide +kernel
theorem dX5_decide_35 : decode cX5_decide 35 = .ok (.bipush 7, 2) := by decide +kernel
theorem dX5_decide_37 : decode cX5_decide 37 = .ok (.invokevirtual 53, 3) := by decide +kernel
theorem dX5_decide_40 : decode cX5_decide 40 = .ok (.invokestatic 26, 3) := by decide +kernel
theorem dX5_decide_43 : decode cX5_decide 43 = .ok (.ifCond .ne 7, 3) := by decide +kernel
theorem dX5_decide_46 : decode cX5_decide 46 = .ok (.sipush (-10001), 3) := by decide +kernel
theorem dX5_decide_49 : decode cX5_decide 49 = .ok (.ireturn, 1) := by decide +kernel
theorem dX5_decide_50 : decode cX5_decide 50 = .ok (.aload_n 0, 1) := by decide +kernel
theorem dX5_decide_51 : decode cX5_decide 51 = .ok (.invokevirtual 34, 3) := by decide +kernel
theorem dX5_decide_54 : decode cX5_decide 54 = .ok (.aload_n 0, 1) := by decide +kernel
theorem dX5_decide_55 : decode cX5_decide 55 = .ok (.getfield 7, 3) := by decide +kernel
theorem dX5_decide_58 : decode cX5_decide 58 = .ok (.iload_n 1, 1) := by decide +kernel
theorem dX5_decide_59 : decode cX5_decide 59 = .ok (.bipush 6, 2) := by decide +kernel
theorem dX5_decide_61 : decode cX5_decide 61 = .ok (.invokestatic 30, 3) := by decide +kernel
theorem dX5_decide_64 : decode cX5_decide 64 = .ok (.iconst 2, 1) := by decide +kernel
theorem dX5_decide_65 : decode cX5_decide 65 = .ok (.iastore, 1) := by decide +kernel
theorem dX5_decide_66 : decode cX5_decide 66 = .ok (.aload_n 0, 1) := by decide +kernel
theorem dX5_decide_67 : decode cX5_decide 67 = .ok (.getfield 7, 3) := by decide +kernel
theorem dX5_decide_70 : decode cX5_decide 70 = .ok (.iload_n 1, 1) := by decide +kernel
theorem dX5_decide_71 : decode cX5_decide 71 = .ok (.iconst 4, 1) := by decide +kernel
theorem dX5_decide_72 : decode cX5_decide 72 = .ok (.invokestatic 30, 3) := by decide +kernel
theorem dX5_decide_75 : decode cX5_decide 75 = .ok (.iload_n 2, 1) := by decide +kernel
theorem dX5_decide_76 : decode cX5_decide 76 = .ok (.iastore, 1) := by decide +kernel
theorem dX5_decide_77 : decode cX5_decide 77 = .ok (.iload_n 2, 1) := by decide +kernel
theorem dX5_decide_78 : decode cX5_decide 78 = .ok (.aload_n 0, 1) := by decide +kernel
theorem dX5_decide_79 : decode cX5_decide 79 = .ok (.iload_n 1, 1) := by decide +kernel
theorem dX5_decide_80 : decode cX5_decide 80 = .ok (.bipush 7, 2) := by decide +kernel
theorem dX5_decide_82 : decode cX5_decide 82 = .ok (.invokevirtual 53, 3) := by decide +kernel
theorem dX5_decide_85 : decode cX5_decide 85 = .ok (.if_icmp .ne 7, 3) := by decide +kernel
theorem dX5_decide_88 : decode cX5_decide 88 = .ok (.iconst 2, 1) := by decide +kernel
theorem dX5_decide_89 : decode cX5_decide 89 = .ok (.goto 13, 3) := by decide +kernel
theorem dX5_decide_92 : decode cX5_decide 92 = .ok (.iload_n 2, 1) := by decide +kernel
theorem dX5_decide_93 : decode cX5_decide 93 = .ok (.iload_n 3, 1) := by decide +kernel
theorem dX5_decide_94 : decode cX5_decide 94 = .ok (.if_icmp .le 7, 3) := by decide +kernel
theorem dX5_decide_97 : decode cX5_decide 97 = .ok (.iconst 1, 1) := by decide +kernel
theorem dX5_decide_98 : decode cX5_decide 98 = .ok (.goto 4, 3) := by decide +kernel
theorem dX5_decide_101 : decode cX5_decide 101 = .ok (.iconst 0, 1) := by decide +kernel
theorem dX5_decide_102 : decode cX5_decide 102 = .ok (.istore 4, 2) := by decide +kernel
theorem dX5_decide_104 : decode cX5_decide 104 = .ok (.aload_n 0, 1) := by decide +kernel
theorem dX5_decide_105 : decode cX5_decide 105 = .ok (.getfield 7, 3) := by decide +kernel
theorem dX5_decide_108 : decode cX5_decide 108 = .ok (.aload_n 0, 1) := by decide +kernel
theorem dX5_decide_109 : decode cX5_decide 109 = .ok (.iload_n 1, 1) := by decide +kernel
theorem dX5_decide_110 : decode cX5_decide 110 = .ok (.iconst 0, 1) := by decide +kernel
theorem dX5_decide_111 : decode cX5_decide 111 = .ok (.invokevirtual 53, 3) := by decide +kernel
theorem dX5_decide_114 : decode cX5_decide 114 = .ok (.iconst 1, 1) := by decide +kernel
theorem dX5_decide_115 : decode cX5_decide 115 = .ok (.invokestatic 78, 3) := by decide +kernel
theorem dX5_decide_118 : decode cX5_decide 118 = .ok (.dup2, 1) := by decide +kernel
theorem dX5_decide_119 : decode cX5_decide 119 = .ok (.iaload, 1) := by decide +kernel
theorem dX5_decide_120 : decode cX5_decide 120 = .ok (.iload 4, 2) := by decide +kernel
theorem dX5_decide_122 : decode cX5_decide 122 = .ok (.iconst 2, 1) := by decide +kernel
theorem dX5_decide_123 : decode cX5_decide 123 = .ok (.if_icmp .ne 7, 3) := by decide +kernel
theorem dX5_decide_126 : decode cX5_decide 126 = .ok (.iconst 1, 1) := by decide +kernel
theorem dX5_decide_127 : decode cX5_decide 127 = .ok (.goto 4, 3) := by decide +kernel
theorem dX5_decide_130 : decode cX5_decide 130 = .ok (.iconst 0, 1) := by decide +kernel
theorem dX5_decide_131 : decode cX5_decide 131 = .ok (.iadd, 1) := by decide +kernel
theorem dX5_decide_132 : decode cX5_decide 132 = .ok (.iastore, 1) := by decide +kernel
theorem dX5_decide_133 : decode cX5_decide 133 = .ok (.aload_n 0, 1) := by decide +kernel
theorem dX5_decide_134 : decode cX5_decide 134 = .ok (.getfield 7, 3) := by decide +kernel
theorem dX5_decide_137 : decode cX5_decide 137 = .ok (.aload_n 0, 1) := by decide +kernel
theorem dX5_decide_138 : decode cX5_decide 138 = .ok (.iload_n 1, 1) := by decide +kernel
theorem dX5_decide_139 : decode cX5_decide 139 = .ok (.iconst 0, 1) := by decide +kernel
theorem dX5_decide_140 : decode cX5_decide 140 = .ok (.invokevirtual 53, 3) := by decide +kernel
theorem dX5_decide_143 : decode cX5_decide 143 = .ok (.iconst 2, 1) := by decide +kernel
theorem dX5_decide_144 : decode cX5_decide 144 = .ok (.invokestatic 78, 3) := by decide +kernel
theorem dX5_decide_147 : decode cX5_decide 147 = .ok (.dup2, 1) := by decide +kernel
theorem dX5_decide_148 : decode cX5_decide 148 = .ok (.iaload, 1) := by decide +kernel
theorem dX5_decide_149 : decode cX5_decide 149 = .ok (.iload 4, 2) := by decide +kernel
theorem dX5_decide_151 : decode cX5_decide 151 = .ok (.ifCond .ne 7, 3) := by decide +kernel
theorem dX5_decide_154 : decode cX5_decide 154 = .ok (.iconst 1, 1) := by decide +kernel
theorem dX5_decide_155 : decode cX5_decide 155 = .ok (.goto 4, 3) := by decide +kernel
theorem dX5_decide_158 : decode cX5_decide 158 = .ok (.iconst 0, 1) := by decide +kernel
theorem dX5_decide_159 : decode cX5_decide 159 = .ok (.iadd, 1) := by decide +kernel
theorem dX5_decide_160 : decode cX5_decide 160 = .ok (.iastore, 1) := by decide +kernel
theorem dX5_decide_161 : decode cX5_decide 161 = .ok (.iload 4, 2) := by decide +kernel
theorem dX5_decide_163 : decode cX5_decide 163 = .ok (.ireturn, 1) := by decide +kernel
theorem dX5_gives_0 : decode cX5_gives 0 = .ok (.aload_n 0, 1) := by decide +kernel
theorem dX5_gives_1 : decode cX5_gives 1 = .ok (.getfield 7, 3) := by decide +kernel
theorem dX5_gives_4 : decode cX5_gives 4 = .ok (.iload_n 1, 1) := by decide +kernel
theorem dX5_gives_5 : decode cX5_gives 5 = .ok (.iconst 0, 1) := by decide +kernel
theorem dX5_gives_6 : decode cX5_gives 6 = .ok (.invokestatic 78, 3) := by decide +kernel
theorem dX5_gives_9 : decode cX5_gives 9 = .ok (.dup2, 1) := by decide +kernel
theorem dX5_gives_10 : decode cX5_gives 10 = .ok (.iaload, 1) := by decide +kernel
theorem dX5_gives_11 : decode cX5_gives 11 = .ok (.iload_n 2, 1) := by decide +kernel
theorem dX5_gives_12 : decode cX5_gives 12 = .ok (.iadd, 1) := by decide +kernel
theorem dX5_gives_13 : decode cX5_gives 13 = .ok (.iastore, 1) := by decide +kernel
theorem dX5_gives_14 : decode cX5_gives 14 = .ok (.return_, 1) := by decide +kernel
theorem dX5_pays_0 : decode cX5_pays 0 = .ok (.aload_n 0, 1) := by decide +kernel
theorem dX5_pays_1 : decode cX5_pays 1 = .ok (.iload_n 1, 1) := by decide +kernel
theorem dX5_pays_2 : decode cX5_pays 2 = .ok (.invokevirtual 66, 3) := by decide +kernel
theorem dX5_pays_5 : decode cX5_pays 5 = .ok (.istore_n 2, 1) := by decide +kernel
theorem dX5_pays_6 : decode cX5_pays 6 = .ok (.aload_n 0, 1) := by decide +kernel
theorem dX5_pays_7 : decode cX5_pays 7 = .ok (.iload_n 1, 1) := by decide +kernel
theorem dX5_pays_8 : decode cX5_pays 8 = .ok (.iconst 1, 1) := by decide +kernel
theorem dX5_pays_9 : decode cX5_pays 9 = .ok (.invokevirtual 53, 3) := by decide +kernel
theorem dX5_pays_12 : decode cX5_pays 12 = .ok (.iconst 2, 1) := by decide +kernel
theorem dX5_pays_13 : decode cX5_pays 13 = .ok (.invokestatic 37, 3) := by decide +kernel
theorem dX5_pays_16 : decode cX5_pays 16 = .ok (.istore_n 3, 1) := by decide +kernel
theorem dX5_pays_17 : decode cX5_pays 17 = .ok (.aload_n 0, 1) := by decide +kernel
theorem dX5_pays_18 : decode cX5_pays 18 = .ok (.getfield 7, 3) := by decide +kernel
theorem dX5_pays_21 : decode cX5_pays 21 = .ok (.iload_n 3, 1) := by decide +kernel
theorem dX5_pays_22 : decode cX5_pays 22 = .ok (.iaload, 1) := by decide +kernel
theorem dX5_pays_23 : decode cX5_pays 23 = .ok (.aload_n 0, 1) := by decide +kernel
theorem dX5_pays_24 : decode cX5_pays 24 = .ok (.getfield 7, 3) := by decide +kernel
theorem dX5_pays_27 : decode cX5_pays 27 = .ok (.iconst 1, 1) := by decide +kernel
theorem dX5_pays_28 : decode cX5_pays 28 = .ok (.iaload, 1) := by decide +kernel
theorem dX5_pays_29 : decode cX5_pays 29 = .ok (.iadd, 1) := by decide +kernel
theorem dX5_pays_30 : decode cX5_pays 30 = .ok (.iload_n 2, 1) := by decide +kernel
theorem dX5_pays_31 : decode cX5_pays 31 = .ok (.if_icmp .ge 16, 3) := by decide +kernel
theorem dX5_pays_34 : decode cX5_pays 34 = .ok (.aload_n 0, 1) := by decide +kernel
theorem dX5_pays_35 : decode cX5_pays 35 = .ok (.getfield 7, 3) := by decide +kernel
theorem dX5_pays_38 : decode cX5_pays 38 = .ok (.iload_n 1, 1) := by decide +kernel
theorem dX5_pays_39 : decode cX5_pays 39 = .ok (.iconst 3, 1) := by decide +kernel
theorem dX5_pays_40 : decode cX5_pays 40 = .ok (.invokestatic 30, 3) := by decide +kernel
theorem dX5_pays_43 : decode cX5_pays 43 = .ok (.iconst 2, 1) := by decide +kernel
theorem dX5_pays_44 : decode cX5_pays 44 = .ok (.iastore, 1) := by decide +kernel
theorem dX5_pays_45 : decode cX5_pays 45 = .ok (.iconst 0, 1) := by decide +kernel
theorem dX5_pays_46 : decode cX5_pays 46 = .ok (.ireturn, 1) := by decide +kernel
theorem dX5_pays_47 : decode cX5_pays 47 = .ok (.aload_n 0, 1) := by decide +kernel
theorem dX5_pays_48 : decode cX5_pays 48 = .ok (.getfield 7, 3) := by decide +kernel
theorem dX5_pays_51 : decode cX5_pays 51 = .ok (.iload_n 3, 1) := by decide +kernel
theorem dX5_pays_52 : decode cX5_pays 52 = .ok (.iaload, 1) := by decide +kernel
theorem dX5_pays_53 : decode cX5_pays 53 = .ok (.iload_n 2, 1) := by decide +kernel
theorem dX5_pays_54 : decode cX5_pays 54 = .ok (.invokestatic 81, 3) := by decide +kernel
theorem dX5_pays_57 : decode cX5_pays 57 = .ok (.istore 4, 2) := by decide +kernel
theorem dX5_pays_59 : decode cX5_pays 59 = .ok (.aload_n 0, 1) := by decide +kernel
theorem dX5_pays_60 : decode cX5_pays 60 = .ok (.getfield 7, 3) := by decide +kernel
theorem dX5_pays_63 : decode cX5_pays 63 = .ok (.iload_n 3, 1) := by decide +kernel
theorem dX5_pays_64 : decode cX5_pays 64 = .ok (.dup2, 1) := by decide +kernel
theorem dX5_pays_65 : decode cX5_pays 65 = .ok (.iaload, 1) := by decide +kernel
theorem dX5_pays_66 : decode cX5_pays 66 = .ok (.iload 4, 2) := by decide +kernel
theorem dX5_pays_68 : decode cX5_pays 68 = .ok (.isub, 1) := by decide +kernel
theorem dX5_pays_69 : decode cX5_pays 69 = .ok (.iastore, 1) := by decide +kernel
theorem dX5_pays_70 : decode cX5_pays 70 = .ok (.aload_n 0, 1) := by decide +kernel
theorem dX5_pays_71 : decode cX5_pays 71 = .ok (.getfield 7, 3) := by decide +kernel
theorem dX5_pays_74 : decode cX5_pays 74 = .ok (.iconst 1, 1) := by decide +kernel
theorem dX5_pays_75 : decode cX5_pays 75 = .ok (.dup2, 1) := by decide +kernel
theorem dX5_pays_76 : decode cX5_pays 76 = .ok (.iaload, 1) := by decide +kernel
theorem dX5_pays_77 : decode cX5_pays 77 = .ok (.iload_n 2, 1) := by decide +kernel
theorem dX5_pays_78 : decode cX5_pays 78 = .ok (.iload 4, 2) := by decide +kernel
theorem dX5_pays_80 : decode cX5_pays 80 = .ok (.isub, 1) := by decide +kernel
theorem dX5_pays_81 : decode cX5_pays 81 = .ok (.isub, 1) := by decide +kernel
theorem dX5_pays_82 : decode cX5_pays 82 = .ok (.iastore, 1) := by decide +kernel
theorem dX5_pays_83 : decode cX5_pays 83 = .ok (.aload_n 0, 1) := by decide +kernel
theorem dX5_pays_84 : decode cX5_pays 84 = .ok (.getfield 7, 3) := by decide +kernel
theorem dX5_pays_87 : decode cX5_pays 87 = .ok (.bipush 7, 2) := by decide +kernel
theorem dX5_pays_89 : decode cX5_pays 89 = .ok (.dup2, 1) := by decide +kernel
theorem dX5_pays_90 : decode cX5_pays 90 = .ok (.iaload, 1) := by decide +kernel
theorem dX5_pays_91 : decode cX5_pays 91 = .ok (.iload_n 2, 1) := by decide +kernel
theorem dX5_pays_92 : decode cX5_pays 92 = .ok (.iadd, 1) := by decide +kernel
theorem dX5_pays_93 : decode cX5_pays 93 = .ok (.iastore, 1) := by decide +kernel
theorem dX5_pays_94 : decode cX5_pays 94 = .ok (.aload_n 0, 1) := by decide +kernel
theorem dX5_pays_95 : decode cX5_pays 95 = .ok (.getfield 7, 3) := by decide +kernel
theorem dX5_pays_98 : decode cX5_pays 98 = .ok (.iload_n 1, 1) := by decide +kernel
theorem dX5_pays_99 : decode cX5_pays 99 = .ok (.iconst 3, 1) := by decide +kernel
theorem dX5_pays_100 : decode cX5_pays 100 = .ok (.invokestatic 30, 3) := by decide +kernel
theorem dX5_pays_103 : decode cX5_pays 103 = .ok (.iconst 3, 1) := by decide +kernel
theorem dX5_pays_104 : decode cX5_pays 104 = .ok (.iastore, 1) := by decide +kernel
theorem dX5_pays_105 : decode cX5_pays 105 = .ok (.aload_n 0, 1) := by decide +kernel
theorem dX5_pays_106 : decode cX5_pays 106 = .ok (.getfield 7, 3) := by decide +kernel
theorem dX5_pays_109 : decode cX5_pays 109 = .ok (.iload_n 1, 1) := by decide +kernel
theorem dX5_pays_110 : decode cX5_pays 110 = .ok (.bipush 8, 2) := by decide +kernel
theorem dX5_pays_112 : decode cX5_pays 112 = .ok (.invokestatic 30, 3) := by decide +kernel
theorem dX5_pays_115 : decode cX5_pays 115 = .ok (.iload_n 2, 1) := by decide +kernel
theorem dX5_pays_116 : decode cX5_pays 116 = .ok (.iastore, 1) := by decide +kernel
theorem dX5_pays_117 : decode cX5_pays 117 = .ok (.iload_n 2, 1) := by decide +kernel
theorem dX5_pays_118 : decode cX5_pays 118 = .ok (.istore 5, 2) := by decide +kernel
theorem dX5_pays_120 : decode cX5_pays 120 = .ok (.iconst 0, 1) := by decide +kernel
theorem dX5_pays_121 : decode cX5_pays 121 = .ok (.istore 6, 2) := by decide +kernel
theorem dX5_pays_123 : decode cX5_pays 123 = .ok (.iconst 0, 1) := by decide +kernel
theorem dX5_pays_124 : decode cX5_pays 124 = .ok (.istore 7, 2) := by decide +kernel
theorem dX5_pays_126 : decode cX5_pays 126 = .ok (.iload 7, 2) := by decide +kernel
theorem dX5_pays_128 : decode cX5_pays 128 = .ok (.aload_n 0, 1) := by decide +kernel
theorem dX5_pays_129 : decode cX5_pays 129 = .ok (.getfield 7, 3) := by decide +kernel
theorem dX5_pays_132 : decode cX5_pays 132 = .ok (.bipush 6, 2) := by decide +kernel
theorem dX5_pays_134 : decode cX5_pays 134 = .ok (.iaload, 1) := by decide +kernel
theorem dX5_pays_135 : decode cX5_pays 135 = .ok (.if_icmp .ge 64, 3) := by decide +kernel
theorem dX5_pays_138 : decode cX5_pays 138 = .ok (.iload 6, 2) := by decide +kernel
theorem dX5_pays_140 : decode cX5_pays 140 = .ok (.iconst 3, 1) := by decide +kernel
theorem dX5_pays_141 : decode cX5_pays 141 = .ok (.if_icmp .ge 58, 3) := by decide +kernel
theorem dX5_pays_144 : decode cX5_pays 144 = .ok (.aload_n 0, 1) := by decide +kernel
theorem dX5_pays_145 : decode cX5_pays 145 = .ok (.iload 7, 2) := by decide +kernel
theorem dX5_pays_147 : decode cX5_pays 147 = .ok (.iconst 3, 1) := by decide +kernel
theorem dX5_pays_148 : decode cX5_pays 148 = .ok (.invokevirtual 53, 3) := by decide +kernel
theorem dX5_pays_151 : decode cX5_pays 151 = .ok (.iconst 5, 1) := by decide +kernel
theorem dX5_pays_152 : decode cX5_pays 152 = .ok (.if_icmp .ne 41, 3) := by decide +kernel
theorem dX5_pays_155 : decode cX5_pays 155 = .ok (.aload_n 0, 1) := by decide +kernel
theorem dX5_pays_156 : decode cX5_pays 156 = .ok (.iload 7, 2) := by decide +kernel
theorem dX5_pays_158 : decode cX5_pays 158 = .ok (.iconst 5, 1) := by decide +kernel
theorem dX5_pays_159 : decode cX5_pays 159 = .ok (.invokevirtual 53, 3) := by decide +kernel
theorem dX5_pays_162 : decode cX5_pays 162 = .ok (.iload_n 1, 1) := by decide +kernel
theorem dX5_pays_163 : decode cX5_pays 163 = .ok (.if_icmp .ne 30, 3) := by decide +kernel
theorem dX5_pays_166 : decode cX5_pays 166 = .ok (.aload_n 0, 1) := by decide +kernel
theorem dX5_pays_167 : decode cX5_pays 167 = .ok (.aload_n 0, 1) := by decide +kernel
theorem dX5_pays_168 : decode cX5_pays 168 = .ok (.iload 7, 2) := by decide +kernel
theorem dX5_pays_170 : decode cX5_pays 170 = .ok (.iconst 0, 1) := by decide +kernel
theorem dX5_pays_171 : decode cX5_pays 171 = .ok (.invokevirtual 53, 3) := by decide +kernel
theorem dX5_pays_174 : decode cX5_pays 174 = .ok (.iload_n 2, 1) := by decide +kernel
theorem dX5_pays_175 : decode cX5_pays 175 = .ok (.bipush 10, 2) := by decide +kernel
theorem dX5_pays_177 : decode cX5_pays 177 = .ok (.idiv, 1) := by decide +kernel
theorem dX5_pays_178 : decode cX5_pays 178 = .ok (.invokevirtual 84, 3) := by decide +kernel
theorem dX5_pays_181 : decode cX5_pays 181 = .ok (.iload 5, 2) := by decide +kernel
theorem dX5_pays_183 : decode cX5_pays 183 = .ok (.iload_n 2, 1) := by decide +kernel
theorem dX5_pays_184 : decode cX5_pays 184 = .ok (.bipush 10, 2) := by decide +kernel
theorem dX5_pays_186 : decode cX5_pays 186 = .ok (.idiv, 1) := by decide +kernel
theorem dX5_pays_187 : decode cX5_pays 187 = .ok (.isub, 1) := by decide +kernel
theorem dX5_pays_188 : decode cX5_pays 188 = .ok (.istore 5, 2) := by decide +kernel
theorem dX5_pays_190 : decode cX5_pays 190 = .ok (.iinc 6 1, 3) := by decide +kernel
theorem dX5_pays_193 : decode cX5_pays 193 = .ok (.iinc 7 1, 3) := by decide +kernel
theorem dX5_pays_196 : decode cX5_pays 196 = .ok (.goto (-70), 3) := by decide +kernel
theorem dX5_pays_199 : decode cX5_pays 199 = .ok (.aload_n 0, 1) := by decide +kernel
theorem dX5_pays_200 : decode cX5_pays 200 = .ok (.aload_n 0, 1) := by decide +kernel
theorem dX5_pays_201 : decode cX5_pays 201 = .ok (.iload_n 1, 1) := by decide +kernel
theorem dX5_pays_202 : decode cX5_pays 202 = .ok (.iconst 0, 1) := by decide +kernel
theorem dX5_pays_203 : decode cX5_pays 203 = .ok (.invokevirtual 53, 3) := by decide +kernel
theorem dX5_pays_206 : decode cX5_pays 206 = .ok (.iload 5, 2) := by decide +kernel
theorem dX5_pays_208 : decode cX5_pays 208 = .ok (.invokevirtual 84, 3) := by decide +kernel
theorem dX5_pays_211 : decode cX5_pays 211 = .ok (.iload_n 2, 1) := by decide +kernel
theorem dX5_pays_212 : decode cX5_pays 212 = .ok (.ireturn, 1) := by decide +kernel
theorem dX5_pay_0 : decode cX5_pay 0 = .ok (.aload_n 0, 1) := by decide +kernel
theorem dX5_pay_1 : decode cX5_pay 1 = .ok (.iload_n 1, 1) := by decide +kernel
theorem dX5_pay_2 : decode cX5_pay 2 = .ok (.invokevirtual 56, 3) := by decide +kernel
theorem dX5_pay_5 : decode cX5_pay 5 = .ok (.ifCond .ne 7, 3) := by decide +kernel
theorem dX5_pay_8 : decode cX5_pay 8 = .ok (.sipush (-10001), 3) := by decide +kernel
theorem dX5_pay_11 : decode cX5_pay 11 = .ok (.ireturn, 1) := by decide +kernel
theorem dX5_pay_12 : decode cX5_pay 12 = .ok (.aload_n 0, 1) := by decide +kernel
theorem dX5_pay_13 : decode cX5_pay 13 = .ok (.iload_n 1, 1) := by decide +kernel
theorem dX5_pay_14 : decode cX5_pay 14 = .ok (.invokevirtual 75, 3) := by decide +kernel
theorem dX5_pay_17 : decode cX5_pay 17 = .ok (.ifCond .eq 11, 3) := by decide +kernel
theorem dX5_pay_20 : decode cX5_pay 20 = .ok (.aload_n 0, 1) := by decide +kernel
theorem dX5_pay_21 : decode cX5_pay 21 = .ok (.iload_n 1, 1) := by decide +kernel
theorem dX5_pay_22 : decode cX5_pay 22 = .ok (.invokevirtual 69, 3) := by decide +kernel
theorem dX5_pay_25 : decode cX5_pay 25 = .ok (.ifCond .eq 7, 3) := by decide +kernel
theorem dX5_pay_28 : decode cX5_pay 28 = .ok (.sipush (-10002), 3) := by decide +kernel
theorem dX5_pay_31 : decode cX5_pay 31 = .ok (.ireturn, 1) := by decide +kernel
theorem dX5_pay_32 : decode cX5_pay 32 = .ok (.aload_n 0, 1) := by decide +kernel
theorem dX5_pay_33 : decode cX5_pay 33 = .ok (.invokevirtual 34, 3) := by decide +kernel
theorem dX5_pay_36 : decode cX5_pay 36 = .ok (.aload_n 0, 1) := by decide +kernel
theorem dX5_pay_37 : decode cX5_pay 37 = .ok (.iload_n 1, 1) := by decide +kernel
theorem dX5_pay_38 : decode cX5_pay 38 = .ok (.invokevirtual 88, 3) := by decide +kernel
theorem dX5_pay_41 : decode cX5_pay 41 = .ok (.ireturn, 1) := by decide +kernel
theorem dX5_begins_0 : decode cX5_begins 0 = .ok (.iconst 0, 1) := by decide +kernel
theorem dX5_begins_1 : decode cX5_begins 1 = .ok (.istore_n 1, 1) := by decide +kernel
theorem dX5_begins_2 : decode cX5_begins 2 = .ok (.iload_n 1, 1) := by decide +kernel
theorem dX5_begins_3 : decode cX5_begins 3 = .ok (.aload_n 0, 1) := by decide +kernel
theorem dX5_begins_4 : decode cX5_begins 4 = .ok (.getfield 7, 3) := by decide +kernel
theorem dX5_begins_7 : decode cX5_begins 7 = .ok (.iconst 4, 1) := by decide +kernel
theorem dX5_begins_8 : decode cX5_begins 8 = .ok (.iaload, 1) := by decide +kernel
theorem dX5_begins_9 : decode cX5_begins 9 = .ok (.if_icmp .ge 69, 3) := by decide +kernel
theorem dX5_begins_12 : decode cX5_begins 12 = .ok (.aload_n 0, 1) := by decide +kernel
theorem dX5_begins_13 : decode cX5_begins 13 = .ok (.getfield 7, 3) := by decide +kernel
theorem dX5_begins_16 : decode cX5_begins 16 = .ok (.iload_n 1, 1) := by decide +kernel
theorem dX5_begins_17 : decode cX5_begins 17 = .ok (.iconst 2, 1) := by decide +kernel
theorem dX5_begins_18 : decode cX5_begins 18 = .ok (.invokestatic 37, 3) := by decide +kernel
theorem dX5_begins_21 : decode cX5_begins 21 = .ok (.iaload, 1) := by decide +kernel
theorem dX5_begins_22 : decode cX5_begins 22 = .ok (.istore_n 2, 1) := by decide +kernel
theorem dX5_begins_23 : decode cX5_begins 23 = .ok (.iload_n 2, 1) := by decide +kernel
theorem dX5_begins_24 : decode cX5_begins 24 = .ok (.aload_n 0, 1) := by decide +kernel
theorem dX5_begins_25 : decode cX5_begins 25 = .ok (.getfield 7, 3) := by decide +kernel
theorem dX5_begins_28 : decode cX5_begins 28 = .ok (.iload_n 1, 1) := by decide +kernel
theorem dX5_begins_29 : decode cX5_begins 29 = .ok (.iconst 1, 1) := by decide +kernel
theorem dX5_begins_30 : decode cX5_begins 30 = .ok (.invokestatic 37, 3) := by decide +kernel
theorem dX5_begins_33 : decode cX5_begins 33 = .ok (.iaload, 1) := by decide +kernel
theorem dX5_begins_34 : decode cX5_begins 34 = .ok (.invokestatic 81, 3) := by decide +kernel
theorem dX5_begins_37 : decode cX5_begins 37 = .ok (.istore_n 3, 1) := by decide +kernel
theorem dX5_begins_38 : decode cX5_begins 38 = .ok (.aload_n 0, 1) := by decide +kernel
theorem dX5_begins_39 : decode cX5_begins 39 = .ok (.getfield 7, 3) := by decide +kernel
theorem dX5_begins_42 : decode cX5_begins 42 = .ok (.iconst 1, 1) := by decide +kernel
theorem dX5_begins_43 : decode cX5_begins 43 = .ok (.dup2, 1) := by decide +kernel
theorem dX5_begins_44 : decode cX5_begins 44 = .ok (.iaload, 1) := by decide +kernel
theorem dX5_begins_45 : decode cX5_begins 45 = .ok (.iload_n 2, 1) := by decide +kernel
theorem dX5_begins_46 : decode cX5_begins 46 = .ok (.iload_n 3, 1) := by decide +kernel
theorem dX5_begins_47 : decode cX5_begins 47 = .ok (.isub, 1) := by decide +kernel
theorem dX5_begins_48 : decode cX5_begins 48 = .ok (.iadd, 1) := by decide +kernel
theorem dX5_begins_49 : decode cX5_begins 49 = .ok (.iastore, 1) := by decide +kernel
theorem dX5_begins_50 : decode cX5_begins 50 = .ok (.aload_n 0, 1) := by decide +kernel
theorem dX5_begins_51 : decode cX5_begins 51 = .ok (.getfield 7, 3) := by decide +kernel
theorem dX5_begins_54 : decode cX5_begins 54 = .ok (.iload_n 1, 1) := by decide +kernel
theorem dX5_begins_55 : decode cX5_begins 55 = .ok (.iconst 2, 1) := by decide +kernel
theorem dX5_begins_56 : decode cX5_begins 56 = .ok (.invokestatic 37, 3) := by decide +kernel
theorem dX5_begins_59 : decode cX5_begins 59 = .ok (.iload_n 3, 1) := by decide +kernel
theorem dX5_begins_60 : decode cX5_begins 60 = .ok (.aload_n 0, 1) := by decide +kernel
theorem dX5_begins_61 : decode cX5_begins 61 = .ok (.getfield 7, 3) := by decide +kernel
theorem dX5_begins_64 : decode cX5_begins 64 = .ok (.iload_n 1, 1) := by decide +kernel
theorem dX5_begins_65 : decode cX5_begins 65 = .ok (.iconst 1, 1) := by decide +kernel
theorem dX5_begins_66 : decode cX5_begins 66 = .ok (.invokestatic 37, 3) := by decide +kernel
theorem dX5_begins_69 : decode cX5_begins 69 = .ok (.iaload, 1) := by decide +kernel
theorem dX5_begins_70 : decode cX5_begins 70 = .ok (.iadd, 1) := by decide +kernel
theorem dX5_begins_71 : decode cX5_begins 71 = .ok (.iastore, 1) := by decide +kernel
theorem dX5_begins_72 : decode cX5_begins 72 = .ok (.iinc 1 1, 3) := by decide +kernel
theorem dX5_begins_75 : decode cX5_begins 75 = .ok (.goto (-73), 3) := by decide +kernel
theorem dX5_begins_78 : decode cX5_begins 78 = .ok (.iconst 0, 1) := by decide +kernel
theorem dX5_begins_79 : decode cX5_begins 79 = .ok (.istore_n 1, 1) := by decide +kernel
theorem dX5_begins_80 : decode cX5_begins 80 = .ok (.iconst 0, 1) := by decide +kernel
theorem dX5_begins_81 : decode cX5_begins 81 = .ok (.istore_n 2, 1) := by decide +kernel
theorem dX5_begins_82 : decode cX5_begins 82 = .ok (.iload_n 2, 1) := by decide +kernel
theorem dX5_begins_83 : decode cX5_begins 83 = .ok (.aload_n 0, 1) := by decide +kernel
theorem dX5_begins_84 : decode cX5_begins 84 = .ok (.getfield 7, 3) := by decide +kernel
theorem dX5_begins_87 : decode cX5_begins 87 = .ok (.bipush 6, 2) := by decide +kernel
theorem dX5_begins_89 : decode cX5_begins 89 = .ok (.iaload, 1) := by decide +kernel
theorem dX5_begins_90 : decode cX5_begins 90 = .ok (.if_icmp .ge 43, 3) := by decide +kernel
theorem dX5_begins_93 : decode cX5_begins 93 = .ok (.iload_n 1, 1) := by decide +kernel
theorem dX5_begins_94 : decode cX5_begins 94 = .ok (.aload_n 0, 1) := by decide +kernel
theorem dX5_begins_95 : decode cX5_begins 95 = .ok (.iload_n 2, 1) := by decide +kernel
theorem dX5_begins_96 : decode cX5_begins 96 = .ok (.iconst 3, 1) := by decide +kernel
theorem dX5_begins_97 : decode cX5_begins 97 = .ok (.invokevirtual 53, 3) := by decide +kernel
theorem dX5_begins_100 : decode cX5_begins 100 = .ok (.iconst 2, 1) := by decide +kernel
theorem dX5_begins_101 : decode cX5_begins 101 = .ok (.if_icmp .ne 23, 3) := by decide +kernel
theorem dX5_begins_104 : decode cX5_begins 104 = .ok (.aload_n 0, 1) := by decide +kernel
theorem dX5_begins_105 : decode cX5_begins 105 = .ok (.iload_n 2, 1) := by decide +kernel
theorem dX5_begins_106 : decode cX5_begins 106 = .ok (.invokevirtual 69, 3) := by decide +kernel
theorem dX5_begins_109 : decode cX5_begins 109 = .ok (.ifCond .ne 15, 3) := by decide +kernel
theorem dX5_begins_112 : decode cX5_begins 112 = .ok (.aload_n 0, 1) := by decide +kernel
theorem dX5_begins_113 : decode cX5_begins 113 = .ok (.iload_n 2, 1) := by decide +kernel
theorem dX5_begins_114 : decode cX5_begins 114 = .ok (.invokevirtual 88, 3) := by decide +kernel
theorem dX5_begins_117 : decode cX5_begins 117 = .ok (.ifCond .le 7, 3) := by decide +kernel
theorem dX5_begins_120 : decode cX5_begins 120 = .ok (.iconst 1, 1) := by decide +kernel
theorem dX5_begins_121 : decode cX5_begins 121 = .ok (.goto 4, 3) := by decide +kernel
theorem dX5_begins_124 : decode cX5_begins 124 = .ok (.iconst 0, 1) := by decide +kernel
theorem dX5_begins_125 : decode cX5_begins 125 = .ok (.iadd, 1) := by decide +kernel
theorem dX5_begins_126 : decode cX5_begins 126 = .ok (.istore_n 1, 1) := by decide +kernel
theorem dX5_begins_127 : decode cX5_begins 127 = .ok (.iinc 2 1, 3) := by decide +kernel
theorem dX5_begins_130 : decode cX5_begins 130 = .ok (.goto (-48), 3) := by decide +kernel
theorem dX5_begins_133 : decode cX5_begins 133 = .ok (.iload_n 1, 1) := by decide +kernel
theorem dX5_begins_134 : decode cX5_begins 134 = .ok (.ireturn, 1) := by decide +kernel
theorem dX5_pass_0 : decode cX5_pass 0 = .ok (.iload_n 1, 1) := by decide +kernel
theorem dX5_pass_1 : decode cX5_pass 1 = .ok (.iconst 1, 1) := by decide +kernel
theorem dX5_pass_2 : decode cX5_pass 2 = .ok (.sipush 400, 3) := by decide +kernel
theorem dX5_pass_5 : decode cX5_pass 5 = .ok (.invokestatic 26, 3) := by decide +kernel
theorem dX5_pass_8 : decode cX5_pass 8 = .ok (.ifCond .ne 7, 3) := by decide +kernel
theorem dX5_pass_11 : decode cX5_pass 11 = .ok (.sipush (-10001), 3) := by decide +kernel
theorem dX5_pass_14 : decode cX5_pass 14 = .ok (.ireturn, 1) := by decide +kernel
theorem dX5_pass_15 : decode cX5_pass 15 = .ok (.aload_n 0, 1) := by decide +kernel
theorem dX5_pass_16 : decode cX5_pass 16 = .ok (.getfield 7, 3) := by decide +kernel
theorem dX5_pass_19 : decode cX5_pass 19 = .ok (.iconst 0, 1) := by decide +kernel
theorem dX5_pass_20 : decode cX5_pass 20 = .ok (.iaload, 1) := by decide +kernel
theorem dX5_pass_21 : decode cX5_pass 21 = .ok (.iload_n 1, 1) := by decide +kernel
theorem dX5_pass_22 : decode cX5_pass 22 = .ok (.iadd, 1) := by decide +kernel
theorem dX5_pass_23 : decode cX5_pass 23 = .ok (.sipush 9999, 3) := by decide +kernel
theorem dX5_pass_26 : decode cX5_pass 26 = .ok (.if_icmp .le 7, 3) := by decide +kernel
theorem dX5_pass_29 : decode cX5_pass 29 = .ok (.sipush (-10002), 3) := by decide +kernel
theorem dX5_pass_32 : decode cX5_pass 32 = .ok (.ireturn, 1) := by decide +kernel
theorem dX5_pass_33 : decode cX5_pass 33 = .ok (.aload_n 0, 1) := by decide +kernel
theorem dX5_pass_34 : decode cX5_pass 34 = .ok (.invokevirtual 34, 3) := by decide +kernel
theorem dX5_pass_37 : decode cX5_pass 37 = .ok (.iconst 0, 1) := by decide +kernel
theorem dX5_pass_38 : decode cX5_pass 38 = .ok (.istore_n 2, 1) := by decide +kernel
theorem dX5_pass_39 : decode cX5_pass 39 = .ok (.iconst 0, 1) := by decide +kernel
theorem dX5_pass_40 : decode cX5_pass 40 = .ok (.istore_n 3, 1) := by decide +kernel
theorem dX5_pass_41 : decode cX5_pass 41 = .ok (.iload_n 3, 1) := by decide +kernel
theorem dX5_pass_42 : decode cX5_pass 42 = .ok (.iload_n 1, 1) := by decide +kernel
theorem dX5_pass_43 : decode cX5_pass 43 = .ok (.if_icmp .ge 42, 3) := by decide +kernel
theorem dX5_pass_46 : decode cX5_pass 46 = .ok (.aload_n 0, 1) := by decide +kernel
theorem dX5_pass_47 : decode cX5_pass 47 = .ok (.getfield 7, 3) := by decide +kernel
theorem dX5_pass_50 : decode cX5_pass 50 = .ok (.iconst 0, 1) := by decide +kernel
theorem dX5_pass_51 : decode cX5_pass 51 = .ok (.dup2, 1) := by decide +kernel
theorem dX5_pass_52 : decode cX5_pass 52 = .ok (.iaload, 1) := by decide +kernel
theorem dX5_pass_53 : decode cX5_pass 53 = .ok (.iconst 1, 1) := by decide +kernel
theorem dX5_pass_54 : decode cX5_pass 54 = .ok (.iadd, 1) := by decide +kernel
theorem dX5_pass_55 : decode cX5_pass 55 = .ok (.iastore, 1) := by decide +kernel
theorem dX5_pass_56 : decode cX5_pass 56 = .ok (.iload_n 2, 1) := by decide +kernel
theorem dX5_pass_57 : decode cX5_pass 57 = .ok (.aload_n 0, 1) := by decide +kernel
theorem dX5_pass_58 : decode cX5_pass 58 = .ok (.getfield 7, 3) := by decide +kernel
theorem dX5_pass_61 : decode cX5_pass 61 = .ok (.iconst 0, 1) := by decide +kernel
theorem dX5_pass_62 : decode cX5_pass 62 = .ok (.iaload, 1) := by decide +kernel
theorem dX5_pass_63 : decode cX5_pass 63 = .ok (.bipush 90, 2) := by decide +kernel
theorem dX5_pass_65 : decode cX5_pass 65 = .ok (.irem, 1) := by decide +kernel
theorem dX5_pass_66 : decode cX5_pass 66 = .ok (.ifCond .ne 10, 3) := by decide +kernel
theorem dX5_pass_69 : decode cX5_pass 69 = .ok (.aload_n 0, 1) := by decide +kernel
theorem dX5_pass_70 : decode cX5_pass 70 = .ok (.invokevirtual 91, 3) := by decide +kernel
theorem dX5_pass_73 : decode cX5_pass 73 = .ok (.goto 4, 3) := by decide +kernel
theorem dX5_pass_76 : decode cX5_pass 76 = .ok (.iconst 0, 1) := by decide +kernel
theorem dX5_pass_77 : decode cX5_pass 77 = .ok (.iadd, 1) := by decide +kernel
theorem dX5_pass_78 : decode cX5_pass 78 = .ok (.istore_n 2, 1) := by decide +kernel
theorem dX5_pass_79 : decode cX5_pass 79 = .ok (.iinc 3 1, 3) := by decide +kernel
theorem dX5_pass_82 : decode cX5_pass 82 = .ok (.goto (-41), 3) := by decide +kernel
theorem dX5_pass_85 : decode cX5_pass 85 = .ok (.iload_n 2, 1) := by decide +kernel
theorem dX5_pass_86 : decode cX5_pass 86 = .ok (.ireturn, 1) := by decide +kernel
theorem dX5_hasReported_0 : decode cX5_hasReported 0 = .ok (.aload_n 0, 1) := by decide +kernel
theorem dX5_hasReported_1 : decode cX5_hasReported 1 = .ok (.iload_n 2, 1) := by decide +kernel
theorem dX5_hasReported_2 : decode cX5_hasReported 2 = .ok (.iconst 0, 1) := by decide +kernel
theorem dX5_hasReported_3 : decode cX5_hasReported 3 = .ok (.invokevirtual 53, 3) := by decide +kernel
theorem dX5_hasReported_6 : decode cX5_hasReported 6 = .ok (.iload_n 1, 1) := by decide +kernel
theorem dX5_hasReported_7 : decode cX5_hasReported 7 = .ok (.if_icmp .ne 7, 3) := by decide +kernel
theorem dX5_hasReported_10 : decode cX5_hasReported 10 = .ok (.iconst 1, 1) := by decide +kernel
theorem dX5_hasReported_11 : decode cX5_hasReported 11 = .ok (.goto 4, 3) := by decide +kernel
theorem dX5_hasReported_14 : decode cX5_hasReported 14 = .ok (.iconst 0, 1) := by decide +kernel
theorem dX5_hasReported_15 : decode cX5_hasReported 15 = .ok (.istore_n 3, 1) := by decide +kernel
theorem dX5_hasReported_16 : decode cX5_hasReported 16 = .ok (.iconst 0, 1) := by decide +kernel
theorem dX5_hasReported_17 : decode cX5_hasReported 17 = .ok (.istore 4, 2) := by decide +kernel
theorem dX5_hasReported_19 : decode cX5_hasReported 19 = .ok (.iload 4, 2) := by decide +kernel
theorem dX5_hasReported_21 : decode cX5_hasReported 21 = .ok (.aload_n 0, 1) := by decide +kernel
theorem dX5_hasReported_22 : decode cX5_hasReported 22 = .ok (.getfield 7, 3) := by decide +kernel
theorem dX5_hasReported_25 : decode cX5_hasReported 25 = .ok (.bipush 6, 2) := by decide +kernel
theorem dX5_hasReported_27 : decode cX5_hasReported 27 = .ok (.iaload, 1) := by decide +kernel
theorem dX5_hasReported_28 : decode cX5_hasReported 28 = .ok (.if_icmp .ge 52, 3) := by decide +kernel
theorem dX5_hasReported_31 : decode cX5_hasReported 31 = .ok (.iload_n 3, 1) := by decide +kernel
theorem dX5_hasReported_32 : decode cX5_hasReported 32 = .ok (.ifCond .ne 36, 3) := by decide +kernel
theorem dX5_hasReported_35 : decode cX5_hasReported 35 = .ok (.aload_n 0, 1) := by decide +kernel
theorem dX5_hasReported_36 : decode cX5_hasReported 36 = .ok (.iload 4, 2) := by decide +kernel
theorem dX5_hasReported_38 : decode cX5_hasReported 38 = .ok (.iconst 3, 1) := by decide +kernel
theorem dX5_hasReported_39 : decode cX5_hasReported 39 = .ok (.invokevirtual 53, 3) := by decide +kernel
theorem dX5_hasReported_42 : decode cX5_hasReported 42 = .ok (.iconst 5, 1) := by decide +kernel
theorem dX5_hasReported_43 : decode cX5_hasReported 43 = .ok (.if_icmp .ne 29, 3) := by decide +kernel
theorem dX5_hasReported_46 : decode cX5_hasReported 46 = .ok (.aload_n 0, 1) := by decide +kernel
theorem dX5_hasReported_47 : decode cX5_hasReported 47 = .ok (.iload 4, 2) := by decide +kernel
theorem dX5_hasReported_49 : decode cX5_hasReported 49 = .ok (.iconst 5, 1) := by decide +kernel
theorem dX5_hasReported_50 : decode cX5_hasReported 50 = .ok (.invokevirtual 53, 3) := by decide +kernel
theorem dX5_hasReported_53 : decode cX5_hasReported 53 = .ok (.iload_n 2, 1) := by decide +kernel
theorem dX5_hasReported_54 : decode cX5_hasReported 54 = .ok (.if_icmp .ne 18, 3) := by decide +kernel
theorem dX5_hasReported_57 : decode cX5_hasReported 57 = .ok (.aload_n 0, 1) := by decide +kernel
theorem dX5_hasReported_58 : decode cX5_hasReported 58 = .ok (.iload 4, 2) := by decide +kernel
theorem dX5_hasReported_60 : decode cX5_hasReported 60 = .ok (.iconst 0, 1) := by decide +kernel
theorem dX5_hasReported_61 : decode cX5_hasReported 61 = .ok (.invokevirtual 53, 3) := by decide +kernel
theorem dX5_hasReported_64 : decode cX5_hasReported 64 = .ok (.iload_n 1, 1) := by decide +kernel
theorem dX5_hasReported_65 : decode cX5_hasReported 65 = .ok (.if_icmp .ne 7, 3) := by decide +kernel
theorem dX5_hasReported_68 : decode cX5_hasReported 68 = .ok (.iconst 1, 1) := by decide +kernel
theorem dX5_hasReported_69 : decode cX5_hasReported 69 = .ok (.goto 4, 3) := by decide +kernel
theorem dX5_hasReported_72 : decode cX5_hasReported 72 = .ok (.iconst 0, 1) := by decide +kernel
theorem dX5_hasReported_73 : decode cX5_hasReported 73 = .ok (.istore_n 3, 1) := by decide +kernel
theorem dX5_hasReported_74 : decode cX5_hasReported 74 = .ok (.iinc 4 1, 3) := by decide +kernel
theorem dX5_hasReported_77 : decode cX5_hasReported 77 = .ok (.goto (-58), 3) := by decide +kernel
theorem dX5_hasReported_80 : decode cX5_hasReported 80 = .ok (.iload_n 3, 1) := by decide +kernel
theorem dX5_hasReported_81 : decode cX5_hasReported 81 = .ok (.ireturn, 1) := by decide +kernel
theorem dX5_givesBonuses_0 : decode cX5_givesBonuses 0 = .ok (.iload_n 1, 1) := by decide +kernel
theorem dX5_givesBonuses_1 : decode cX5_givesBonuses 1 = .ok (.invokestatic 95, 3) := by decide +kernel
theorem dX5_givesBonuses_4 : decode cX5_givesBonuses 4 = .ok (.aload_n 0, 1) := by decide +kernel
theorem dX5_givesBonuses_5 : decode cX5_givesBonuses 5 = .ok (.getfield 7, 3) := by decide +kernel
theorem dX5_givesBonuses_8 : decode cX5_givesBonuses 8 = .ok (.iconst 3, 1) := by decide +kernel
theorem dX5_givesBonuses_9 : decode cX5_givesBonuses 9 = .ok (.iaload, 1) := by decide +kernel
theorem dX5_givesBonuses_10 : decode cX5_givesBonuses 10 = .ok (.imul, 1) := by decide +kernel
theorem dX5_givesBonuses_11 : decode cX5_givesBonuses 11 = .ok (.istore_n 2, 1) := by decide +kernel
theorem dX5_givesBonuses_12 : decode cX5_givesBonuses 12 = .ok (.iload_n 2, 1) := by decide +kernel
theorem dX5_givesBonuses_13 : decode cX5_givesBonuses 13 = .ok (.aload_n 0, 1) := by decide +kernel
theorem dX5_givesBonuses_14 : decode cX5_givesBonuses 14 = .ok (.getfield 7, 3) := by decide +kernel
theorem dX5_givesBonuses_17 : decode cX5_givesBonuses 17 = .ok (.iconst 1, 1) := by decide +kernel
theorem dX5_givesBonuses_18 : decode cX5_givesBonuses 18 = .ok (.iaload, 1) := by decide +kernel
theorem dX5_givesBonuses_19 : decode cX5_givesBonuses 19 = .ok (.if_icmp .le 4, 3) := by decide +kernel
theorem dX5_givesBonuses_22 : decode cX5_givesBonuses 22 = .ok (.return_, 1) := by decide +kernel
theorem dX5_givesBonuses_23 : decode cX5_givesBonuses 23 = .ok (.aload_n 0, 1) := by decide +kernel
theorem dX5_givesBonuses_24 : decode cX5_givesBonuses 24 = .ok (.getfield 7, 3) := by decide +kernel
theorem dX5_givesBonuses_27 : decode cX5_givesBonuses 27 = .ok (.iconst 1, 1) := by decide +kernel
theorem dX5_givesBonuses_28 : decode cX5_givesBonuses 28 = .ok (.dup2, 1) := by decide +kernel
theorem dX5_givesBonuses_29 : decode cX5_givesBonuses 29 = .ok (.iaload, 1) := by decide +kernel
theorem dX5_givesBonuses_30 : decode cX5_givesBonuses 30 = .ok (.iload_n 2, 1) := by decide +kernel
theorem dX5_givesBonuses_31 : decode cX5_givesBonuses 31 = .ok (.isub, 1) := by decide +kernel
theorem dX5_givesBonuses_32 : decode cX5_givesBonuses 32 = .ok (.iastore, 1) := by decide +kernel
theorem dX5_givesBonuses_33 : decode cX5_givesBonuses 33 = .ok (.aload_n 0, 1) := by decide +kernel
theorem dX5_givesBonuses_34 : decode cX5_givesBonuses 34 = .ok (.getfield 7, 3) := by decide +kernel
theorem dX5_givesBonuses_37 : decode cX5_givesBonuses 37 = .ok (.bipush 8, 2) := by decide +kernel
theorem dX5_givesBonuses_39 : decode cX5_givesBonuses 39 = .ok (.dup2, 1) := by decide +kernel
theorem dX5_givesBonuses_40 : decode cX5_givesBonuses 40 = .ok (.iaload, 1) := by decide +kernel
theorem dX5_givesBonuses_41 : decode cX5_givesBonuses 41 = .ok (.iload_n 2, 1) := by decide +kernel
theorem dX5_givesBonuses_42 : decode cX5_givesBonuses 42 = .ok (.iadd, 1) := by decide +kernel
theorem dX5_givesBonuses_43 : decode cX5_givesBonuses 43 = .ok (.iastore, 1) := by decide +kernel
theorem dX5_givesBonuses_44 : decode cX5_givesBonuses 44 = .ok (.iconst 0, 1) := by decide +kernel
theorem dX5_givesBonuses_45 : decode cX5_givesBonuses 45 = .ok (.istore_n 3, 1) := by decide +kernel
theorem dX5_givesBonuses_46 : decode cX5_givesBonuses 46 = .ok (.iload_n 3, 1) := by decide +kernel
theorem dX5_givesBonuses_47 : decode cX5_givesBonuses 47 = .ok (.aload_n 0, 1) := by decide +kernel
theorem dX5_givesBonuses_48 : decode cX5_givesBonuses 48 = .ok (.getfield 7, 3) := by decide +kernel
theorem dX5_givesBonuses_51 : decode cX5_givesBonuses 51 = .ok (.iconst 5, 1) := by decide +kernel
theorem dX5_givesBonuses_52 : decode cX5_givesBonuses 52 = .ok (.iaload, 1) := by decide +kernel
theorem dX5_givesBonuses_53 : decode cX5_givesBonuses 53 = .ok (.if_icmp .ge 42, 3) := by decide +kernel
theorem dX5_givesBonuses_56 : decode cX5_givesBonuses 56 = .ok (.iload_n 1, 1) := by decide +kernel
theorem dX5_givesBonuses_57 : decode cX5_givesBonuses 57 = .ok (.iload_n 3, 1) := by decide +kernel
theorem dX5_givesBonuses_58 : decode cX5_givesBonuses 58 = .ok (.invokestatic 98, 3) := by decide +kernel
theorem dX5_givesBonuses_61 : decode cX5_givesBonuses 61 = .ok (.ifCond .eq 28, 3) := by decide +kernel
theorem dX5_givesBonuses_64 : decode cX5_givesBonuses 64 = .ok (.aload_n 0, 1) := by decide +kernel
theorem dX5_givesBonuses_65 : decode cX5_givesBonuses 65 = .ok (.iload_n 3, 1) := by decide +kernel
theorem dX5_givesBonuses_66 : decode cX5_givesBonuses 66 = .ok (.aload_n 0, 1) := by decide +kernel
theorem dX5_givesBonuses_67 : decode cX5_givesBonuses 67 = .ok (.getfield 7, 3) := by decide +kernel
theorem dX5_givesBonuses_70 : decode cX5_givesBonuses 70 = .ok (.iconst 3, 1) := by decide +kernel
theorem dX5_givesBonuses_71 : decode cX5_givesBonuses 71 = .ok (.iaload, 1) := by decide +kernel
theorem dX5_givesBonuses_72 : decode cX5_givesBonuses 72 = .ok (.invokevirtual 84, 3) := by decide +kernel
theorem dX5_givesBonuses_75 : decode cX5_givesBonuses 75 = .ok (.aload_n 0, 1) := by decide +kernel
theorem dX5_givesBonuses_76 : decode cX5_givesBonuses 76 = .ok (.getfield 7, 3) := by decide +kernel
theorem dX5_givesBonuses_79 : decode cX5_givesBonuses 79 = .ok (.iload_n 3, 1) := by decide +kernel
theorem dX5_givesBonuses_80 : decode cX5_givesBonuses 80 = .ok (.iconst 3, 1) := by decide +kernel
theorem dX5_givesBonuses_81 : decode cX5_givesBonuses 81 = .ok (.invokestatic 78, 3) := by decide +kernel
theorem dX5_givesBonuses_84 : decode cX5_givesBonuses 84 = .ok (.dup2, 1) := by decide +kernel
theorem dX5_givesBonuses_85 : decode cX5_givesBonuses 85 = .ok (.iaload, 1) := by decide +kernel
theorem dX5_givesBonuses_86 : decode cX5_givesBonuses 86 = .ok (.iconst 1, 1) := by decide +kernel
theorem dX5_givesBonuses_87 : decode cX5_givesBonuses 87 = .ok (.iadd, 1) := by decide +kernel
theorem dX5_givesBonuses_88 : decode cX5_givesBonuses 88 = .ok (.iastore, 1) := by decide +kernel
theorem dX5_givesBonuses_89 : decode cX5_givesBonuses 89 = .ok (.iinc 3 1, 3) := by decide +kernel
theorem dX5_givesBonuses_92 : decode cX5_givesBonuses 92 = .ok (.goto (-46), 3) := by decide +kernel
end
section
theorem dX5_givesBonuses_95 : decode cX5_givesBonuses 95 = .ok (.return_, 1) := by decide +kernel
theorem dX5_isNewAgain_0 : decode cX5_isNewAgain 0 = .ok (.aload_n 0, 1) := by decide +kernel
theorem dX5_isNewAgain_1 : decode cX5_isNewAgain 1 = .ok (.getfield 7, 3) := by decide +kernel
theorem dX5_isNewAgain_4 : decode cX5_isNewAgain 4 = .ok (.iload_n 1, 1) := by decide +kernel
theorem dX5_isNewAgain_5 : decode cX5_isNewAgain 5 = .ok (.iconst 3, 1) := by decide +kernel
theorem dX5_isNewAgain_6 : decode cX5_isNewAgain 6 = .ok (.invokestatic 30, 3) := by decide +kernel
theorem dX5_isNewAgain_9 : decode cX5_isNewAgain 9 = .ok (.iconst 0, 1) := by decide +kernel
theorem dX5_isNewAgain_10 : decode cX5_isNewAgain 10 = .ok (.iastore, 1) := by decide +kernel
theorem dX5_isNewAgain_11 : decode cX5_isNewAgain 11 = .ok (.aload_n 0, 1) := by decide +kernel
theorem dX5_isNewAgain_12 : decode cX5_isNewAgain 12 = .ok (.getfield 7, 3) := by decide +kernel
theorem dX5_isNewAgain_15 : decode cX5_isNewAgain 15 = .ok (.iload_n 1, 1) := by decide +kernel
theorem dX5_isNewAgain_16 : decode cX5_isNewAgain 16 = .ok (.iconst 4, 1) := by decide +kernel
theorem dX5_isNewAgain_17 : decode cX5_isNewAgain 17 = .ok (.invokestatic 30, 3) := by decide +kernel
theorem dX5_isNewAgain_20 : decode cX5_isNewAgain 20 = .ok (.iconst 0, 1) := by decide +kernel
theorem dX5_isNewAgain_21 : decode cX5_isNewAgain 21 = .ok (.iastore, 1) := by decide +kernel
theorem dX5_isNewAgain_22 : decode cX5_isNewAgain 22 = .ok (.aload_n 0, 1) := by decide +kernel
theorem dX5_isNewAgain_23 : decode cX5_isNewAgain 23 = .ok (.getfield 7, 3) := by decide +kernel
theorem dX5_isNewAgain_26 : decode cX5_isNewAgain 26 = .ok (.iload_n 1, 1) := by decide +kernel
theorem dX5_isNewAgain_27 : decode cX5_isNewAgain 27 = .ok (.bipush 6, 2) := by decide +kernel
theorem dX5_isNewAgain_29 : decode cX5_isNewAgain 29 = .ok (.invokestatic 30, 3) := by decide +kernel
theorem dX5_isNewAgain_32 : decode cX5_isNewAgain 32 = .ok (.iconst 0, 1) := by decide +kernel
theorem dX5_isNewAgain_33 : decode cX5_isNewAgain 33 = .ok (.iastore, 1) := by decide +kernel
theorem dX5_isNewAgain_34 : decode cX5_isNewAgain 34 = .ok (.aload_n 0, 1) := by decide +kernel
theorem dX5_isNewAgain_35 : decode cX5_isNewAgain 35 = .ok (.getfield 7, 3) := by decide +kernel
theorem dX5_isNewAgain_38 : decode cX5_isNewAgain 38 = .ok (.iload_n 1, 1) := by decide +kernel
theorem dX5_isNewAgain_39 : decode cX5_isNewAgain 39 = .ok (.bipush 7, 2) := by decide +kernel
theorem dX5_isNewAgain_41 : decode cX5_isNewAgain 41 = .ok (.invokestatic 30, 3) := by decide +kernel
theorem dX5_isNewAgain_44 : decode cX5_isNewAgain 44 = .ok (.iconst 0, 1) := by decide +kernel
theorem dX5_isNewAgain_45 : decode cX5_isNewAgain 45 = .ok (.iastore, 1) := by decide +kernel
theorem dX5_isNewAgain_46 : decode cX5_isNewAgain 46 = .ok (.aload_n 0, 1) := by decide +kernel
theorem dX5_isNewAgain_47 : decode cX5_isNewAgain 47 = .ok (.getfield 7, 3) := by decide +kernel
theorem dX5_isNewAgain_50 : decode cX5_isNewAgain 50 = .ok (.iload_n 1, 1) := by decide +kernel
theorem dX5_isNewAgain_51 : decode cX5_isNewAgain 51 = .ok (.bipush 10, 2) := by decide +kernel
theorem dX5_isNewAgain_53 : decode cX5_isNewAgain 53 = .ok (.invokestatic 30, 3) := by decide +kernel
theorem dX5_isNewAgain_56 : decode cX5_isNewAgain 56 = .ok (.iconst 0, 1) := by decide +kernel
theorem dX5_isNewAgain_57 : decode cX5_isNewAgain 57 = .ok (.iastore, 1) := by decide +kernel
theorem dX5_isNewAgain_58 : decode cX5_isNewAgain 58 = .ok (.aload_n 0, 1) := by decide +kernel
theorem dX5_isNewAgain_59 : decode cX5_isNewAgain 59 = .ok (.getfield 7, 3) := by decide +kernel
theorem dX5_isNewAgain_62 : decode cX5_isNewAgain 62 = .ok (.iload_n 1, 1) := by decide +kernel
theorem dX5_isNewAgain_63 : decode cX5_isNewAgain 63 = .ok (.bipush 11, 2) := by decide +kernel
theorem dX5_isNewAgain_65 : decode cX5_isNewAgain 65 = .ok (.invokestatic 30, 3) := by decide +kernel
theorem dX5_isNewAgain_68 : decode cX5_isNewAgain 68 = .ok (.iconst 0, 1) := by decide +kernel
theorem dX5_isNewAgain_69 : decode cX5_isNewAgain 69 = .ok (.iastore, 1) := by decide +kernel
theorem dX5_isNewAgain_70 : decode cX5_isNewAgain 70 = .ok (.aload_n 0, 1) := by decide +kernel
theorem dX5_isNewAgain_71 : decode cX5_isNewAgain 71 = .ok (.iload_n 1, 1) := by decide +kernel
theorem dX5_isNewAgain_72 : decode cX5_isNewAgain 72 = .ok (.invokevirtual 72, 3) := by decide +kernel
theorem dX5_isNewAgain_75 : decode cX5_isNewAgain 75 = .ok (.istore_n 2, 1) := by decide +kernel
theorem dX5_isNewAgain_76 : decode cX5_isNewAgain 76 = .ok (.return_, 1) := by decide +kernel
theorem dX5_retest_0 : decode cX5_retest 0 = .ok (.aload_n 0, 1) := by decide +kernel
theorem dX5_retest_1 : decode cX5_retest 1 = .ok (.iload_n 1, 1) := by decide +kernel
theorem dX5_retest_2 : decode cX5_retest 2 = .ok (.invokevirtual 46, 3) := by decide +kernel
theorem dX5_retest_5 : decode cX5_retest 5 = .ok (.ifCond .eq 20, 3) := by decide +kernel
theorem dX5_retest_8 : decode cX5_retest 8 = .ok (.aload_n 0, 1) := by decide +kernel
theorem dX5_retest_9 : decode cX5_retest 9 = .ok (.iload_n 2, 1) := by decide +kernel
theorem dX5_retest_10 : decode cX5_retest 10 = .ok (.invokevirtual 56, 3) := by decide +kernel
theorem dX5_retest_13 : decode cX5_retest 13 = .ok (.ifCond .eq 12, 3) := by decide +kernel
theorem dX5_retest_16 : decode cX5_retest 16 = .ok (.iload_n 3, 1) := by decide +kernel
theorem dX5_retest_17 : decode cX5_retest 17 = .ok (.iconst 0, 1) := by decide +kernel
theorem dX5_retest_18 : decode cX5_retest 18 = .ok (.iconst 1, 1) := by decide +kernel
theorem dX5_retest_19 : decode cX5_retest 19 = .ok (.invokestatic 26, 3) := by decide +kernel
theorem dX5_retest_22 : decode cX5_retest 22 = .ok (.ifCond .ne 7, 3) := by decide +kernel
theorem dX5_retest_25 : decode cX5_retest 25 = .ok (.sipush (-10001), 3) := by decide +kernel
theorem dX5_retest_28 : decode cX5_retest 28 = .ok (.ireturn, 1) := by decide +kernel
theorem dX5_retest_29 : decode cX5_retest 29 = .ok (.aload_n 0, 1) := by decide +kernel
theorem dX5_retest_30 : decode cX5_retest 30 = .ok (.iload_n 2, 1) := by decide +kernel
theorem dX5_retest_31 : decode cX5_retest 31 = .ok (.bipush 10, 2) := by decide +kernel
theorem dX5_retest_33 : decode cX5_retest 33 = .ok (.invokevirtual 53, 3) := by decide +kernel
theorem dX5_retest_36 : decode cX5_retest 36 = .ok (.aload_n 0, 1) := by decide +kernel
theorem dX5_retest_37 : decode cX5_retest 37 = .ok (.iload_n 2, 1) := by decide +kernel
theorem dX5_retest_38 : decode cX5_retest 38 = .ok (.bipush 11, 2) := by decide +kernel
theorem dX5_retest_40 : decode cX5_retest 40 = .ok (.invokevirtual 53, 3) := by decide +kernel
theorem dX5_retest_43 : decode cX5_retest 43 = .ok (.ior, 1) := by decide +kernel
theorem dX5_retest_44 : decode cX5_retest 44 = .ok (.iload_n 1, 1) := by decide +kernel
theorem dX5_retest_45 : decode cX5_retest 45 = .ok (.invokestatic 98, 3) := by decide +kernel
theorem dX5_retest_48 : decode cX5_retest 48 = .ok (.istore 4, 2) := by decide +kernel
theorem dX5_retest_50 : decode cX5_retest 50 = .ok (.aload_n 0, 1) := by decide +kernel
theorem dX5_retest_51 : decode cX5_retest 51 = .ok (.iload_n 2, 1) := by decide +kernel
theorem dX5_retest_52 : decode cX5_retest 52 = .ok (.iconst 3, 1) := by decide +kernel
theorem dX5_retest_53 : decode cX5_retest 53 = .ok (.invokevirtual 53, 3) := by decide +kernel
theorem dX5_retest_56 : decode cX5_retest 56 = .ok (.iconst 3, 1) := by decide +kernel
theorem dX5_retest_57 : decode cX5_retest 57 = .ok (.if_icmp .ne 28, 3) := by decide +kernel
theorem dX5_retest_60 : decode cX5_retest 60 = .ok (.aload_n 0, 1) := by decide +kernel
theorem dX5_retest_61 : decode cX5_retest 61 = .ok (.iload_n 2, 1) := by decide +kernel
theorem dX5_retest_62 : decode cX5_retest 62 = .ok (.bipush 9, 2) := by decide +kernel
theorem dX5_retest_64 : decode cX5_retest 64 = .ok (.invokevirtual 53, 3) := by decide +kernel
theorem dX5_retest_67 : decode cX5_retest 67 = .ok (.iconst 1, 1) := by decide +kernel
theorem dX5_retest_68 : decode cX5_retest 68 = .ok (.if_icmp .eq 17, 3) := by decide +kernel
theorem dX5_retest_71 : decode cX5_retest 71 = .ok (.iload 4, 2) := by decide +kernel
theorem dX5_retest_73 : decode cX5_retest 73 = .ok (.ifCond .ne 12, 3) := by decide +kernel
theorem dX5_retest_76 : decode cX5_retest 76 = .ok (.aload_n 0, 1) := by decide +kernel
theorem dX5_retest_77 : decode cX5_retest 77 = .ok (.iload_n 1, 1) := by decide +kernel
theorem dX5_retest_78 : decode cX5_retest 78 = .ok (.iload_n 2, 1) := by decide +kernel
theorem dX5_retest_79 : decode cX5_retest 79 = .ok (.invokevirtual 102, 3) := by decide +kernel
theorem dX5_retest_82 : decode cX5_retest 82 = .ok (.ifCond .eq 7, 3) := by decide +kernel
theorem dX5_retest_85 : decode cX5_retest 85 = .ok (.sipush (-10002), 3) := by decide +kernel
theorem dX5_retest_88 : decode cX5_retest 88 = .ok (.ireturn, 1) := by decide +kernel
theorem dX5_retest_89 : decode cX5_retest 89 = .ok (.aload_n 0, 1) := by decide +kernel
theorem dX5_retest_90 : decode cX5_retest 90 = .ok (.invokevirtual 34, 3) := by decide +kernel
theorem dX5_retest_93 : decode cX5_retest 93 = .ok (.iload_n 2, 1) := by decide +kernel
theorem dX5_retest_94 : decode cX5_retest 94 = .ok (.iload_n 3, 1) := by decide +kernel
theorem dX5_retest_95 : decode cX5_retest 95 = .ok (.iconst 1, 1) := by decide +kernel
theorem dX5_retest_96 : decode cX5_retest 96 = .ok (.if_icmp .ne 8, 3) := by decide +kernel
theorem dX5_retest_99 : decode cX5_retest 99 = .ok (.bipush 10, 2) := by decide +kernel
theorem dX5_retest_101 : decode cX5_retest 101 = .ok (.goto 5, 3) := by decide +kernel
theorem dX5_retest_104 : decode cX5_retest 104 = .ok (.bipush 11, 2) := by decide +kernel
theorem dX5_retest_106 : decode cX5_retest 106 = .ok (.invokestatic 30, 3) := by decide +kernel
theorem dX5_retest_109 : decode cX5_retest 109 = .ok (.istore 5, 2) := by decide +kernel
theorem dX5_retest_111 : decode cX5_retest 111 = .ok (.aload_n 0, 1) := by decide +kernel
theorem dX5_retest_112 : decode cX5_retest 112 = .ok (.getfield 7, 3) := by decide +kernel
theorem dX5_retest_115 : decode cX5_retest 115 = .ok (.iload 5, 2) := by decide +kernel
theorem dX5_retest_117 : decode cX5_retest 117 = .ok (.dup2, 1) := by decide +kernel
theorem dX5_retest_118 : decode cX5_retest 118 = .ok (.iaload, 1) := by decide +kernel
theorem dX5_retest_119 : decode cX5_retest 119 = .ok (.iconst 1, 1) := by decide +kernel
theorem dX5_retest_120 : decode cX5_retest 120 = .ok (.iload_n 1, 1) := by decide +kernel
theorem dX5_retest_121 : decode cX5_retest 121 = .ok (.ishl, 1) := by decide +kernel
theorem dX5_retest_122 : decode cX5_retest 122 = .ok (.ior, 1) := by decide +kernel
theorem dX5_retest_123 : decode cX5_retest 123 = .ok (.iastore, 1) := by decide +kernel
theorem dX5_retest_124 : decode cX5_retest 124 = .ok (.aload_n 0, 1) := by decide +kernel
theorem dX5_retest_125 : decode cX5_retest 125 = .ok (.getfield 7, 3) := by decide +kernel
theorem dX5_retest_128 : decode cX5_retest 128 = .ok (.iload 5, 2) := by decide +kernel
theorem dX5_retest_130 : decode cX5_retest 130 = .ok (.iaload, 1) := by decide +kernel
theorem dX5_retest_131 : decode cX5_retest 131 = .ok (.invokestatic 95, 3) := by decide +kernel
theorem dX5_retest_134 : decode cX5_retest 134 = .ok (.iconst 2, 1) := by decide +kernel
theorem dX5_retest_135 : decode cX5_retest 135 = .ok (.if_icmp .ge 5, 3) := by decide +kernel
theorem dX5_retest_138 : decode cX5_retest 138 = .ok (.iconst 0, 1) := by decide +kernel
theorem dX5_retest_139 : decode cX5_retest 139 = .ok (.ireturn, 1) := by decide +kernel
theorem dX5_retest_140 : decode cX5_retest 140 = .ok (.aload_n 0, 1) := by decide +kernel
theorem dX5_retest_141 : decode cX5_retest 141 = .ok (.aload_n 0, 1) := by decide +kernel
theorem dX5_retest_142 : decode cX5_retest 142 = .ok (.getfield 7, 3) := by decide +kernel
theorem dX5_retest_145 : decode cX5_retest 145 = .ok (.iload 5, 2) := by decide +kernel
theorem dX5_retest_147 : decode cX5_retest 147 = .ok (.iaload, 1) := by decide +kernel
theorem dX5_retest_148 : decode cX5_retest 148 = .ok (.invokevirtual 105, 3) := by decide +kernel
theorem dX5_retest_151 : decode cX5_retest 151 = .ok (.iload_n 3, 1) := by decide +kernel
theorem dX5_retest_152 : decode cX5_retest 152 = .ok (.iconst 1, 1) := by decide +kernel
theorem dX5_retest_153 : decode cX5_retest 153 = .ok (.if_icmp .ne 17, 3) := by decide +kernel
theorem dX5_retest_156 : decode cX5_retest 156 = .ok (.aload_n 0, 1) := by decide +kernel
theorem dX5_retest_157 : decode cX5_retest 157 = .ok (.getfield 7, 3) := by decide +kernel
theorem dX5_retest_160 : decode cX5_retest 160 = .ok (.iload_n 2, 1) := by decide +kernel
theorem dX5_retest_161 : decode cX5_retest 161 = .ok (.bipush 9, 2) := by decide +kernel
theorem dX5_retest_163 : decode cX5_retest 163 = .ok (.invokestatic 30, 3) := by decide +kernel
theorem dX5_retest_166 : decode cX5_retest 166 = .ok (.iconst 1, 1) := by decide +kernel
theorem dX5_retest_167 : decode cX5_retest 167 = .ok (.iastore, 1) := by decide +kernel
theorem dX5_retest_168 : decode cX5_retest 168 = .ok (.iconst 1, 1) := by decide +kernel
theorem dX5_retest_169 : decode cX5_retest 169 = .ok (.ireturn, 1) := by decide +kernel
theorem dX5_retest_170 : decode cX5_retest 170 = .ok (.aload_n 0, 1) := by decide +kernel
theorem dX5_retest_171 : decode cX5_retest 171 = .ok (.iload_n 2, 1) := by decide +kernel
theorem dX5_retest_172 : decode cX5_retest 172 = .ok (.invokevirtual 109, 3) := by decide +kernel
theorem dX5_retest_175 : decode cX5_retest 175 = .ok (.iconst 2, 1) := by decide +kernel
theorem dX5_retest_176 : decode cX5_retest 176 = .ok (.ireturn, 1) := by decide +kernel
theorem dX5_standing_0 : decode cX5_standing 0 = .ok (.iconst 2, 1) := by decide +kernel
theorem dX5_standing_1 : decode cX5_standing 1 = .ok (.aload_n 0, 1) := by decide +kernel
theorem dX5_standing_2 : decode cX5_standing 2 = .ok (.getfield 7, 3) := by decide +kernel
theorem dX5_standing_5 : decode cX5_standing 5 = .ok (.iload_n 1, 1) := by decide +kernel
theorem dX5_standing_6 : decode cX5_standing 6 = .ok (.iconst 1, 1) := by decide +kernel
theorem dX5_standing_7 : decode cX5_standing 7 = .ok (.invokestatic 78, 3) := by decide +kernel
theorem dX5_standing_10 : decode cX5_standing 10 = .ok (.iaload, 1) := by decide +kernel
theorem dX5_standing_11 : decode cX5_standing 11 = .ok (.imul, 1) := by decide +kernel
theorem dX5_standing_12 : decode cX5_standing 12 = .ok (.aload_n 0, 1) := by decide +kernel
theorem dX5_standing_13 : decode cX5_standing 13 = .ok (.getfield 7, 3) := by decide +kernel
theorem dX5_standing_16 : decode cX5_standing 16 = .ok (.iload_n 1, 1) := by decide +kernel
theorem dX5_standing_17 : decode cX5_standing 17 = .ok (.iconst 2, 1) := by decide +kernel
theorem dX5_standing_18 : decode cX5_standing 18 = .ok (.invokestatic 78, 3) := by decide +kernel
theorem dX5_standing_21 : decode cX5_standing 21 = .ok (.iaload, 1) := by decide +kernel
theorem dX5_standing_22 : decode cX5_standing 22 = .ok (.isub, 1) := by decide +kernel
theorem dX5_standing_23 : decode cX5_standing 23 = .ok (.aload_n 0, 1) := by decide +kernel
theorem dX5_standing_24 : decode cX5_standing 24 = .ok (.getfield 7, 3) := by decide +kernel
theorem dX5_standing_27 : decode cX5_standing 27 = .ok (.iload_n 1, 1) := by decide +kernel
theorem dX5_standing_28 : decode cX5_standing 28 = .ok (.iconst 3, 1) := by decide +kernel
theorem dX5_standing_29 : decode cX5_standing 29 = .ok (.invokestatic 78, 3) := by decide +kernel
theorem dX5_standing_32 : decode cX5_standing 32 = .ok (.iaload, 1) := by decide +kernel
theorem dX5_standing_33 : decode cX5_standing 33 = .ok (.iadd, 1) := by decide +kernel
theorem dX5_standing_34 : decode cX5_standing 34 = .ok (.istore_n 2, 1) := by decide +kernel
theorem dX5_standing_35 : decode cX5_standing 35 = .ok (.iconst 0, 1) := by decide +kernel
theorem dX5_standing_36 : decode cX5_standing 36 = .ok (.istore_n 3, 1) := by decide +kernel
theorem dX5_standing_37 : decode cX5_standing 37 = .ok (.iload_n 3, 1) := by decide +kernel
theorem dX5_standing_38 : decode cX5_standing 38 = .ok (.aload_n 0, 1) := by decide +kernel
theorem dX5_standing_39 : decode cX5_standing 39 = .ok (.getfield 7, 3) := by decide +kernel
theorem dX5_standing_42 : decode cX5_standing 42 = .ok (.bipush 6, 2) := by decide +kernel
theorem dX5_standing_44 : decode cX5_standing 44 = .ok (.iaload, 1) := by decide +kernel
theorem dX5_standing_45 : decode cX5_standing 45 = .ok (.if_icmp .ge 66, 3) := by decide +kernel
theorem dX5_standing_48 : decode cX5_standing 48 = .ok (.aload_n 0, 1) := by decide +kernel
theorem dX5_standing_49 : decode cX5_standing 49 = .ok (.iload_n 3, 1) := by decide +kernel
theorem dX5_standing_50 : decode cX5_standing 50 = .ok (.iconst 3, 1) := by decide +kernel
theorem dX5_standing_51 : decode cX5_standing 51 = .ok (.invokevirtual 53, 3) := by decide +kernel
theorem dX5_standing_54 : decode cX5_standing 54 = .ok (.istore 4, 2) := by decide +kernel
theorem dX5_standing_56 : decode cX5_standing 56 = .ok (.iload_n 2, 1) := by decide +kernel
theorem dX5_standing_57 : decode cX5_standing 57 = .ok (.aload_n 0, 1) := by decide +kernel
theorem dX5_standing_58 : decode cX5_standing 58 = .ok (.iload_n 3, 1) := by decide +kernel
theorem dX5_standing_59 : decode cX5_standing 59 = .ok (.iconst 0, 1) := by decide +kernel
theorem dX5_standing_60 : decode cX5_standing 60 = .ok (.invokevirtual 53, 3) := by decide +kernel
theorem dX5_standing_63 : decode cX5_standing 63 = .ok (.iload_n 1, 1) := by decide +kernel
theorem dX5_standing_64 : decode cX5_standing 64 = .ok (.if_icmp .eq 7, 3) := by decide +kernel
theorem dX5_standing_67 : decode cX5_standing 67 = .ok (.iconst 0, 1) := by decide +kernel
theorem dX5_standing_68 : decode cX5_standing 68 = .ok (.goto 35, 3) := by decide +kernel
theorem dX5_standing_71 : decode cX5_standing 71 = .ok (.iload 4, 2) := by decide +kernel
theorem dX5_standing_73 : decode cX5_standing 73 = .ok (.iconst 3, 1) := by decide +kernel
theorem dX5_standing_74 : decode cX5_standing 74 = .ok (.if_icmp .ne 7, 3) := by decide +kernel
theorem dX5_standing_77 : decode cX5_standing 77 = .ok (.iconst 3, 1) := by decide +kernel
theorem dX5_standing_78 : decode cX5_standing 78 = .ok (.goto 25, 3) := by decide +kernel
theorem dX5_standing_81 : decode cX5_standing 81 = .ok (.iload 4, 2) := by decide +kernel
theorem dX5_standing_83 : decode cX5_standing 83 = .ok (.iconst 5, 1) := by decide +kernel
theorem dX5_standing_84 : decode cX5_standing 84 = .ok (.if_icmp .ne 7, 3) := by decide +kernel
theorem dX5_standing_87 : decode cX5_standing 87 = .ok (.iconst 1, 1) := by decide +kernel
theorem dX5_standing_88 : decode cX5_standing 88 = .ok (.goto 15, 3) := by decide +kernel
theorem dX5_standing_91 : decode cX5_standing 91 = .ok (.iload 4, 2) := by decide +kernel
theorem dX5_standing_93 : decode cX5_standing 93 = .ok (.iconst 4, 1) := by decide +kernel
theorem dX5_standing_94 : decode cX5_standing 94 = .ok (.if_icmp .ne 8, 3) := by decide +kernel
theorem dX5_standing_97 : decode cX5_standing 97 = .ok (.bipush (-2), 2) := by decide +kernel
theorem dX5_standing_99 : decode cX5_standing 99 = .ok (.goto 4, 3) := by decide +kernel
theorem dX5_standing_102 : decode cX5_standing 102 = .ok (.iconst 0, 1) := by decide +kernel
theorem dX5_standing_103 : decode cX5_standing 103 = .ok (.iadd, 1) := by decide +kernel
theorem dX5_standing_104 : decode cX5_standing 104 = .ok (.istore_n 2, 1) := by decide +kernel
theorem dX5_standing_105 : decode cX5_standing 105 = .ok (.iinc 3 1, 3) := by decide +kernel
theorem dX5_standing_108 : decode cX5_standing 108 = .ok (.goto (-71), 3) := by decide +kernel
theorem dX5_standing_111 : decode cX5_standing 111 = .ok (.iload_n 2, 1) := by decide +kernel
theorem dX5_standing_112 : decode cX5_standing 112 = .ok (.ireturn, 1) := by decide +kernel
theorem dX5_inState_0 : decode cX5_inState 0 = .ok (.iconst 0, 1) := by decide +kernel
theorem dX5_inState_1 : decode cX5_inState 1 = .ok (.istore_n 2, 1) := by decide +kernel
theorem dX5_inState_2 : decode cX5_inState 2 = .ok (.iconst 0, 1) := by decide +kernel
theorem dX5_inState_3 : decode cX5_inState 3 = .ok (.istore_n 3, 1) := by decide +kernel
theorem dX5_inState_4 : decode cX5_inState 4 = .ok (.iload_n 3, 1) := by decide +kernel
theorem dX5_inState_5 : decode cX5_inState 5 = .ok (.aload_n 0, 1) := by decide +kernel
theorem dX5_inState_6 : decode cX5_inState 6 = .ok (.getfield 7, 3) := by decide +kernel
theorem dX5_inState_9 : decode cX5_inState 9 = .ok (.bipush 6, 2) := by decide +kernel
theorem dX5_inState_11 : decode cX5_inState 11 = .ok (.iaload, 1) := by decide +kernel
theorem dX5_inState_12 : decode cX5_inState 12 = .ok (.if_icmp .ge 27, 3) := by decide +kernel
theorem dX5_inState_15 : decode cX5_inState 15 = .ok (.iload_n 2, 1) := by decide +kernel
theorem dX5_inState_16 : decode cX5_inState 16 = .ok (.aload_n 0, 1) := by decide +kernel
theorem dX5_inState_17 : decode cX5_inState 17 = .ok (.iload_n 3, 1) := by decide +kernel
theorem dX5_inState_18 : decode cX5_inState 18 = .ok (.iconst 3, 1) := by decide +kernel
theorem dX5_inState_19 : decode cX5_inState 19 = .ok (.invokevirtual 53, 3) := by decide +kernel
theorem dX5_inState_22 : decode cX5_inState 22 = .ok (.iload_n 1, 1) := by decide +kernel
theorem dX5_inState_23 : decode cX5_inState 23 = .ok (.if_icmp .ne 7, 3) := by decide +kernel
theorem dX5_inState_26 : decode cX5_inState 26 = .ok (.iconst 1, 1) := by decide +kernel
theorem dX5_inState_27 : decode cX5_inState 27 = .ok (.goto 4, 3) := by decide +kernel
theorem dX5_inState_30 : decode cX5_inState 30 = .ok (.iconst 0, 1) := by decide +kernel
theorem dX5_inState_31 : decode cX5_inState 31 = .ok (.iadd, 1) := by decide +kernel
theorem dX5_inState_32 : decode cX5_inState 32 = .ok (.istore_n 2, 1) := by decide +kernel
theorem dX5_inState_33 : decode cX5_inState 33 = .ok (.iinc 3 1, 3) := by decide +kernel
theorem dX5_inState_36 : decode cX5_inState 36 = .ok (.goto (-32), 3) := by decide +kernel
theorem dX5_inState_39 : decode cX5_inState 39 = .ok (.iload_n 2, 1) := by decide +kernel
theorem dX5_inState_40 : decode cX5_inState 40 = .ok (.ireturn, 1) := by decide +kernel
theorem dX5_pools_0 : decode cX5_pools 0 = .ok (.iconst 0, 1) := by decide +kernel
theorem dX5_pools_1 : decode cX5_pools 1 = .ok (.istore_n 1, 1) := by decide +kernel
theorem dX5_pools_2 : decode cX5_pools 2 = .ok (.iconst 0, 1) := by decide +kernel
theorem dX5_pools_3 : decode cX5_pools 3 = .ok (.istore_n 2, 1) := by decide +kernel
theorem dX5_pools_4 : decode cX5_pools 4 = .ok (.iload_n 2, 1) := by decide +kernel
theorem dX5_pools_5 : decode cX5_pools 5 = .ok (.aload_n 0, 1) := by decide +kernel
theorem dX5_pools_6 : decode cX5_pools 6 = .ok (.getfield 7, 3) := by decide +kernel
theorem dX5_pools_9 : decode cX5_pools 9 = .ok (.iconst 4, 1) := by decide +kernel
theorem dX5_pools_10 : decode cX5_pools 10 = .ok (.iaload, 1) := by decide +kernel
theorem dX5_pools_11 : decode cX5_pools 11 = .ok (.if_icmp .ge 22, 3) := by decide +kernel
theorem dX5_pools_14 : decode cX5_pools 14 = .ok (.iload_n 1, 1) := by decide +kernel
theorem dX5_pools_15 : decode cX5_pools 15 = .ok (.aload_n 0, 1) := by decide +kernel
theorem dX5_pools_16 : decode cX5_pools 16 = .ok (.getfield 7, 3) := by decide +kernel
theorem dX5_pools_19 : decode cX5_pools 19 = .ok (.iload_n 2, 1) := by decide +kernel
theorem dX5_pools_20 : decode cX5_pools 20 = .ok (.iconst 2, 1) := by decide +kernel
theorem dX5_pools_21 : decode cX5_pools 21 = .ok (.invokestatic 37, 3) := by decide +kernel
theorem dX5_pools_24 : decode cX5_pools 24 = .ok (.iaload, 1) := by decide +kernel
theorem dX5_pools_25 : decode cX5_pools 25 = .ok (.iadd, 1) := by decide +kernel
theorem dX5_pools_26 : decode cX5_pools 26 = .ok (.istore_n 1, 1) := by decide +kernel
theorem dX5_pools_27 : decode cX5_pools 27 = .ok (.iinc 2 1, 3) := by decide +kernel
theorem dX5_pools_30 : decode cX5_pools 30 = .ok (.goto (-26), 3) := by decide +kernel
theorem dX5_pools_33 : decode cX5_pools 33 = .ok (.iload_n 1, 1) := by decide +kernel
theorem dX5_pools_34 : decode cX5_pools 34 = .ok (.ireturn, 1) := by decide +kernel
theorem dX5_openOnes_0 : decode cX5_openOnes 0 = .ok (.iconst 0, 1) := by decide +kernel
theorem dX5_openOnes_1 : decode cX5_openOnes 1 = .ok (.istore_n 1, 1) := by decide +kernel
theorem dX5_openOnes_2 : decode cX5_openOnes 2 = .ok (.iconst 0, 1) := by decide +kernel
theorem dX5_openOnes_3 : decode cX5_openOnes 3 = .ok (.istore_n 2, 1) := by decide +kernel
theorem dX5_openOnes_4 : decode cX5_openOnes 4 = .ok (.iload_n 2, 1) := by decide +kernel
theorem dX5_openOnes_5 : decode cX5_openOnes 5 = .ok (.aload_n 0, 1) := by decide +kernel
theorem dX5_openOnes_6 : decode cX5_openOnes 6 = .ok (.getfield 7, 3) := by decide +kernel
theorem dX5_openOnes_9 : decode cX5_openOnes 9 = .ok (.bipush 6, 2) := by decide +kernel
theorem dX5_openOnes_11 : decode cX5_openOnes 11 = .ok (.iaload, 1) := by decide +kernel
theorem dX5_openOnes_12 : decode cX5_openOnes 12 = .ok (.if_icmp .ge 25, 3) := by decide +kernel
theorem dX5_openOnes_15 : decode cX5_openOnes 15 = .ok (.iload_n 1, 1) := by decide +kernel
theorem dX5_openOnes_16 : decode cX5_openOnes 16 = .ok (.aload_n 0, 1) := by decide +kernel
theorem dX5_openOnes_17 : decode cX5_openOnes 17 = .ok (.iload_n 2, 1) := by decide +kernel
theorem dX5_openOnes_18 : decode cX5_openOnes 18 = .ok (.invokevirtual 69, 3) := by decide +kernel
theorem dX5_openOnes_21 : decode cX5_openOnes 21 = .ok (.ifCond .eq 7, 3) := by decide +kernel
theorem dX5_openOnes_24 : decode cX5_openOnes 24 = .ok (.iconst 1, 1) := by decide +kernel
theorem dX5_openOnes_25 : decode cX5_openOnes 25 = .ok (.goto 4, 3) := by decide +kernel
theorem dX5_openOnes_28 : decode cX5_openOnes 28 = .ok (.iconst 0, 1) := by decide +kernel
theorem dX5_openOnes_29 : decode cX5_openOnes 29 = .ok (.iadd, 1) := by decide +kernel
theorem dX5_openOnes_30 : decode cX5_openOnes 30 = .ok (.istore_n 1, 1) := by decide +kernel
theorem dX5_openOnes_31 : decode cX5_openOnes 31 = .ok (.iinc 2 1, 3) := by decide +kernel
theorem dX5_openOnes_34 : decode cX5_openOnes 34 = .ok (.goto (-30), 3) := by decide +kernel
theorem dX5_openOnes_37 : decode cX5_openOnes 37 = .ok (.iload_n 1, 1) := by decide +kernel
theorem dX5_openOnes_38 : decode cX5_openOnes 38 = .ok (.ireturn, 1) := by decide +kernel
theorem dX5_count_0 : decode cX5_count 0 = .ok (.iload_n 1, 1) := by decide +kernel
theorem dX5_count_1 : decode cX5_count 1 = .ok (.tableswitch 149 0 16 #[83, 90, 100, 107, 107, 107, 149, 149, 149, 149, 149, 149, 118, 123, 131, 139, 144], 83) := by decide +kernel
theorem dX5_count_84 : decode cX5_count 84 = .ok (.aload_n 0, 1) := by decide +kernel
theorem dX5_count_85 : decode cX5_count 85 = .ok (.getfield 7, 3) := by decide +kernel
theorem dX5_count_88 : decode cX5_count 88 = .ok (.iconst 0, 1) := by decide +kernel
theorem dX5_count_89 : decode cX5_count 89 = .ok (.iaload, 1) := by decide +kernel
theorem dX5_count_90 : decode cX5_count 90 = .ok (.ireturn, 1) := by decide +kernel
theorem dX5_count_91 : decode cX5_count 91 = .ok (.aload_n 0, 1) := by decide +kernel
theorem dX5_count_92 : decode cX5_count 92 = .ok (.getfield 7, 3) := by decide +kernel
theorem dX5_count_95 : decode cX5_count 95 = .ok (.iconst 0, 1) := by decide +kernel
theorem dX5_count_96 : decode cX5_count 96 = .ok (.iaload, 1) := by decide +kernel
theorem dX5_count_97 : decode cX5_count 97 = .ok (.bipush 90, 2) := by decide +kernel
theorem dX5_count_99 : decode cX5_count 99 = .ok (.idiv, 1) := by decide +kernel
theorem dX5_count_100 : decode cX5_count 100 = .ok (.ireturn, 1) := by decide +kernel
theorem dX5_count_101 : decode cX5_count 101 = .ok (.aload_n 0, 1) := by decide +kernel
theorem dX5_count_102 : decode cX5_count 102 = .ok (.getfield 7, 3) := by decide +kernel
theorem dX5_count_105 : decode cX5_count 105 = .ok (.iconst 1, 1) := by decide +kernel
theorem dX5_count_106 : decode cX5_count 106 = .ok (.iaload, 1) := by decide +kernel
theorem dX5_count_107 : decode cX5_count 107 = .ok (.ireturn, 1) := by decide +kernel
theorem dX5_count_108 : decode cX5_count 108 = .ok (.aload_n 0, 1) := by decide +kernel
theorem dX5_count_109 : decode cX5_count 109 = .ok (.getfield 7, 3) := by decide +kernel
theorem dX5_count_112 : decode cX5_count 112 = .ok (.iconst 4, 1) := by decide +kernel
theorem dX5_count_113 : decode cX5_count 113 = .ok (.iload_n 1, 1) := by decide +kernel
theorem dX5_count_114 : decode cX5_count 114 = .ok (.iadd, 1) := by decide +kernel
theorem dX5_count_115 : decode cX5_count 115 = .ok (.iconst 3, 1) := by decide +kernel
theorem dX5_count_116 : decode cX5_count 116 = .ok (.isub, 1) := by decide +kernel
theorem dX5_count_117 : decode cX5_count 117 = .ok (.iaload, 1) := by decide +kernel
theorem dX5_count_118 : decode cX5_count 118 = .ok (.ireturn, 1) := by decide +kernel
theorem dX5_count_119 : decode cX5_count 119 = .ok (.aload_n 0, 1) := by decide +kernel
theorem dX5_count_120 : decode cX5_count 120 = .ok (.invokevirtual 112, 3) := by decide +kernel
theorem dX5_count_123 : decode cX5_count 123 = .ok (.ireturn, 1) := by decide +kernel
theorem dX5_count_124 : decode cX5_count 124 = .ok (.aload_n 0, 1) := by decide +kernel
theorem dX5_count_125 : decode cX5_count 125 = .ok (.getfield 7, 3) := by decide +kernel
theorem dX5_count_128 : decode cX5_count 128 = .ok (.bipush 7, 2) := by decide +kernel
theorem dX5_count_130 : decode cX5_count 130 = .ok (.iaload, 1) := by decide +kernel
theorem dX5_count_131 : decode cX5_count 131 = .ok (.ireturn, 1) := by decide +kernel
theorem dX5_count_132 : decode cX5_count 132 = .ok (.aload_n 0, 1) := by decide +kernel
theorem dX5_count_133 : decode cX5_count 133 = .ok (.getfield 7, 3) := by decide +kernel
theorem dX5_count_136 : decode cX5_count 136 = .ok (.bipush 8, 2) := by decide +kernel
theorem dX5_count_138 : decode cX5_count 138 = .ok (.iaload, 1) := by decide +kernel
theorem dX5_count_139 : decode cX5_count 139 = .ok (.ireturn, 1) := by decide +kernel
theorem dX5_count_140 : decode cX5_count 140 = .ok (.aload_n 0, 1) := by decide +kernel
theorem dX5_count_141 : decode cX5_count 141 = .ok (.invokevirtual 115, 3) := by decide +kernel
theorem dX5_count_144 : decode cX5_count 144 = .ok (.ireturn, 1) := by decide +kernel
theorem dX5_count_145 : decode cX5_count 145 = .ok (.aload_n 0, 1) := by decide +kernel
theorem dX5_count_146 : decode cX5_count 146 = .ok (.getfield 22, 3) := by decide +kernel
theorem dX5_count_149 : decode cX5_count 149 = .ok (.ireturn, 1) := by decide +kernel
theorem dX5_count_150 : decode cX5_count 150 = .ok (.iload_n 1, 1) := by decide +kernel
theorem dX5_count_151 : decode cX5_count 151 = .ok (.bipush 6, 2) := by decide +kernel
theorem dX5_count_153 : decode cX5_count 153 = .ok (.bipush 11, 2) := by decide +kernel
theorem dX5_count_155 : decode cX5_count 155 = .ok (.invokestatic 26, 3) := by decide +kernel
theorem dX5_count_158 : decode cX5_count 158 = .ok (.ifCond .eq 14, 3) := by decide +kernel
theorem dX5_count_161 : decode cX5_count 161 = .ok (.aload_n 0, 1) := by decide +kernel
theorem dX5_count_162 : decode cX5_count 162 = .ok (.iload_n 1, 1) := by decide +kernel
theorem dX5_count_163 : decode cX5_count 163 = .ok (.bipush 6, 2) := by decide +kernel
theorem dX5_count_165 : decode cX5_count 165 = .ok (.isub, 1) := by decide +kernel
theorem dX5_count_166 : decode cX5_count 166 = .ok (.invokevirtual 118, 3) := by decide +kernel
theorem dX5_count_169 : decode cX5_count 169 = .ok (.goto 6, 3) := by decide +kernel
theorem dX5_count_172 : decode cX5_count 172 = .ok (.sipush (-10001), 3) := by decide +kernel
theorem dX5_count_175 : decode cX5_count 175 = .ok (.ireturn, 1) := by decide +kernel
theorem dX5_reportsFor_0 : decode cX5_reportsFor 0 = .ok (.iconst 0, 1) := by decide +kernel
theorem dX5_reportsFor_1 : decode cX5_reportsFor 1 = .ok (.istore_n 2, 1) := by decide +kernel
theorem dX5_reportsFor_2 : decode cX5_reportsFor 2 = .ok (.iconst 0, 1) := by decide +kernel
theorem dX5_reportsFor_3 : decode cX5_reportsFor 3 = .ok (.istore_n 3, 1) := by decide +kernel
theorem dX5_reportsFor_4 : decode cX5_reportsFor 4 = .ok (.iload_n 3, 1) := by decide +kernel
theorem dX5_reportsFor_5 : decode cX5_reportsFor 5 = .ok (.aload_n 0, 1) := by decide +kernel
theorem dX5_reportsFor_6 : decode cX5_reportsFor 6 = .ok (.getfield 7, 3) := by decide +kernel
theorem dX5_reportsFor_9 : decode cX5_reportsFor 9 = .ok (.bipush 6, 2) := by decide +kernel
theorem dX5_reportsFor_11 : decode cX5_reportsFor 11 = .ok (.iaload, 1) := by decide +kernel
theorem dX5_reportsFor_12 : decode cX5_reportsFor 12 = .ok (.if_icmp .ge 27, 3) := by decide +kernel
theorem dX5_reportsFor_15 : decode cX5_reportsFor 15 = .ok (.iload_n 2, 1) := by decide +kernel
theorem dX5_reportsFor_16 : decode cX5_reportsFor 16 = .ok (.aload_n 0, 1) := by decide +kernel
theorem dX5_reportsFor_17 : decode cX5_reportsFor 17 = .ok (.iload_n 3, 1) := by decide +kernel
theorem dX5_reportsFor_18 : decode cX5_reportsFor 18 = .ok (.iconst 1, 1) := by decide +kernel
theorem dX5_reportsFor_19 : decode cX5_reportsFor 19 = .ok (.invokevirtual 53, 3) := by decide +kernel
theorem dX5_reportsFor_22 : decode cX5_reportsFor 22 = .ok (.iload_n 1, 1) := by decide +kernel
theorem dX5_reportsFor_23 : decode cX5_reportsFor 23 = .ok (.if_icmp .ne 7, 3) := by decide +kernel
theorem dX5_reportsFor_26 : decode cX5_reportsFor 26 = .ok (.iconst 1, 1) := by decide +kernel
theorem dX5_reportsFor_27 : decode cX5_reportsFor 27 = .ok (.goto 4, 3) := by decide +kernel
theorem dX5_reportsFor_30 : decode cX5_reportsFor 30 = .ok (.iconst 0, 1) := by decide +kernel
theorem dX5_reportsFor_31 : decode cX5_reportsFor 31 = .ok (.iadd, 1) := by decide +kernel
theorem dX5_reportsFor_32 : decode cX5_reportsFor 32 = .ok (.istore_n 2, 1) := by decide +kernel
theorem dX5_reportsFor_33 : decode cX5_reportsFor 33 = .ok (.iinc 3 1, 3) := by decide +kernel
theorem dX5_reportsFor_36 : decode cX5_reportsFor 36 = .ok (.goto (-32), 3) := by decide +kernel
theorem dX5_reportsFor_39 : decode cX5_reportsFor 39 = .ok (.iload_n 2, 1) := by decide +kernel
theorem dX5_reportsFor_40 : decode cX5_reportsFor 40 = .ok (.ireturn, 1) := by decide +kernel
theorem dX5_pricesFor_0 : decode cX5_pricesFor 0 = .ok (.iconst 0, 1) := by decide +kernel
theorem dX5_pricesFor_1 : decode cX5_pricesFor 1 = .ok (.istore_n 2, 1) := by decide +kernel
theorem dX5_pricesFor_2 : decode cX5_pricesFor 2 = .ok (.iconst 0, 1) := by decide +kernel
theorem dX5_pricesFor_3 : decode cX5_pricesFor 3 = .ok (.istore_n 3, 1) := by decide +kernel
theorem dX5_pricesFor_4 : decode cX5_pricesFor 4 = .ok (.iload_n 3, 1) := by decide +kernel
theorem dX5_pricesFor_5 : decode cX5_pricesFor 5 = .ok (.aload_n 0, 1) := by decide +kernel
theorem dX5_pricesFor_6 : decode cX5_pricesFor 6 = .ok (.getfield 7, 3) := by decide +kernel
theorem dX5_pricesFor_9 : decode cX5_pricesFor 9 = .ok (.bipush 6, 2) := by decide +kernel
theorem dX5_pricesFor_11 : decode cX5_pricesFor 11 = .ok (.iaload, 1) := by decide +kernel
theorem dX5_pricesFor_12 : decode cX5_pricesFor 12 = .ok (.if_icmp .ge 39, 3) := by decide +kernel
theorem dX5_pricesFor_15 : decode cX5_pricesFor 15 = .ok (.iload_n 2, 1) := by decide +kernel
theorem dX5_pricesFor_16 : decode cX5_pricesFor 16 = .ok (.aload_n 0, 1) := by decide +kernel
theorem dX5_pricesFor_17 : decode cX5_pricesFor 17 = .ok (.iload_n 3, 1) := by decide +kernel
theorem dX5_pricesFor_18 : decode cX5_pricesFor 18 = .ok (.iconst 1, 1) := by decide +kernel
theorem dX5_pricesFor_19 : decode cX5_pricesFor 19 = .ok (.invokevirtual 53, 3) := by decide +kernel
theorem dX5_pricesFor_22 : decode cX5_pricesFor 22 = .ok (.iload_n 1, 1) := by decide +kernel
theorem dX5_pricesFor_23 : decode cX5_pricesFor 23 = .ok (.if_icmp .ne 19, 3) := by decide +kernel
theorem dX5_pricesFor_26 : decode cX5_pricesFor 26 = .ok (.aload_n 0, 1) := by decide +kernel
theorem dX5_pricesFor_27 : decode cX5_pricesFor 27 = .ok (.iload_n 3, 1) := by decide +kernel
theorem dX5_pricesFor_28 : decode cX5_pricesFor 28 = .ok (.invokevirtual 75, 3) := by decide +kernel
theorem dX5_pricesFor_31 : decode cX5_pricesFor 31 = .ok (.ifCond .eq 11, 3) := by decide +kernel
theorem dX5_pricesFor_34 : decode cX5_pricesFor 34 = .ok (.aload_n 0, 1) := by decide +kernel
theorem dX5_pricesFor_35 : decode cX5_pricesFor 35 = .ok (.iload_n 3, 1) := by decide +kernel
theorem dX5_pricesFor_36 : decode cX5_pricesFor 36 = .ok (.invokevirtual 66, 3) := by decide +kernel
theorem dX5_pricesFor_39 : decode cX5_pricesFor 39 = .ok (.goto 4, 3) := by decide +kernel
theorem dX5_pricesFor_42 : decode cX5_pricesFor 42 = .ok (.iconst 0, 1) := by decide +kernel
theorem dX5_pricesFor_43 : decode cX5_pricesFor 43 = .ok (.iadd, 1) := by decide +kernel
theorem dX5_pricesFor_44 : decode cX5_pricesFor 44 = .ok (.istore_n 2, 1) := by decide +kernel
theorem dX5_pricesFor_45 : decode cX5_pricesFor 45 = .ok (.iinc 3 1, 3) := by decide +kernel
theorem dX5_pricesFor_48 : decode cX5_pricesFor 48 = .ok (.goto (-44), 3) := by decide +kernel
theorem dX5_pricesFor_51 : decode cX5_pricesFor 51 = .ok (.iload_n 2, 1) := by decide +kernel
theorem dX5_pricesFor_52 : decode cX5_pricesFor 52 = .ok (.ireturn, 1) := by decide +kernel
theorem dX5_asset_0 : decode cX5_asset 0 = .ok (.aload_n 0, 1) := by decide +kernel
theorem dX5_asset_1 : decode cX5_asset 1 = .ok (.iload_n 1, 1) := by decide +kernel
theorem dX5_asset_2 : decode cX5_asset 2 = .ok (.invokevirtual 50, 3) := by decide +kernel
theorem dX5_asset_5 : decode cX5_asset 5 = .ok (.ifCond .eq 12, 3) := by decide +kernel
theorem dX5_asset_8 : decode cX5_asset 8 = .ok (.iload_n 2, 1) := by decide +kernel
theorem dX5_asset_9 : decode cX5_asset 9 = .ok (.iconst 0, 1) := by decide +kernel
theorem dX5_asset_10 : decode cX5_asset 10 = .ok (.iconst 4, 1) := by decide +kernel
theorem dX5_asset_11 : decode cX5_asset 11 = .ok (.invokestatic 26, 3) := by decide +kernel
theorem dX5_asset_14 : decode cX5_asset 14 = .ok (.ifCond .ne 7, 3) := by decide +kernel
theorem dX5_asset_17 : decode cX5_asset 17 = .ok (.sipush (-10001), 3) := by decide +kernel
theorem dX5_asset_20 : decode cX5_asset 20 = .ok (.ireturn, 1) := by decide +kernel
theorem dX5_asset_21 : decode cX5_asset 21 = .ok (.iload_n 2, 1) := by decide +kernel
theorem dX5_asset_22 : decode cX5_asset 22 = .ok (.iconst 3, 1) := by decide +kernel
theorem dX5_asset_23 : decode cX5_asset 23 = .ok (.if_icmp .ge 16, 3) := by decide +kernel
theorem dX5_asset_26 : decode cX5_asset 26 = .ok (.aload_n 0, 1) := by decide +kernel
theorem dX5_asset_27 : decode cX5_asset 27 = .ok (.getfield 7, 3) := by decide +kernel
theorem dX5_asset_30 : decode cX5_asset 30 = .ok (.iload_n 1, 1) := by decide +kernel
theorem dX5_asset_31 : decode cX5_asset 31 = .ok (.iload_n 2, 1) := by decide +kernel
theorem dX5_asset_32 : decode cX5_asset 32 = .ok (.invokestatic 37, 3) := by decide +kernel
theorem dX5_asset_35 : decode cX5_asset 35 = .ok (.iaload, 1) := by decide +kernel
theorem dX5_asset_36 : decode cX5_asset 36 = .ok (.goto 21, 3) := by decide +kernel
theorem dX5_asset_39 : decode cX5_asset 39 = .ok (.iload_n 2, 1) := by decide +kernel
theorem dX5_asset_40 : decode cX5_asset 40 = .ok (.iconst 3, 1) := by decide +kernel
theorem dX5_asset_41 : decode cX5_asset 41 = .ok (.if_icmp .ne 11, 3) := by decide +kernel
theorem dX5_asset_44 : decode cX5_asset 44 = .ok (.aload_n 0, 1) := by decide +kernel
theorem dX5_asset_45 : decode cX5_asset 45 = .ok (.iload_n 1, 1) := by decide +kernel
theorem dX5_asset_46 : decode cX5_asset 46 = .ok (.invokevirtual 121, 3) := by decide +kernel
theorem dX5_asset_49 : decode cX5_asset 49 = .ok (.goto 8, 3) := by decide +kernel
theorem dX5_asset_52 : decode cX5_asset 52 = .ok (.aload_n 0, 1) := by decide +kernel
theorem dX5_asset_53 : decode cX5_asset 53 = .ok (.iload_n 1, 1) := by decide +kernel
theorem dX5_asset_54 : decode cX5_asset 54 = .ok (.invokevirtual 124, 3) := by decide +kernel
theorem dX5_asset_57 : decode cX5_asset 57 = .ok (.ireturn, 1) := by decide +kernel
theorem dX5_reportsBy_0 : decode cX5_reportsBy 0 = .ok (.iconst 0, 1) := by decide +kernel
theorem dX5_reportsBy_1 : decode cX5_reportsBy 1 = .ok (.istore_n 2, 1) := by decide +kernel
theorem dX5_reportsBy_2 : decode cX5_reportsBy 2 = .ok (.iconst 0, 1) := by decide +kernel
theorem dX5_reportsBy_3 : decode cX5_reportsBy 3 = .ok (.istore_n 3, 1) := by decide +kernel
theorem dX5_reportsBy_4 : decode cX5_reportsBy 4 = .ok (.iload_n 3, 1) := by decide +kernel
theorem dX5_reportsBy_5 : decode cX5_reportsBy 5 = .ok (.aload_n 0, 1) := by decide +kernel
theorem dX5_reportsBy_6 : decode cX5_reportsBy 6 = .ok (.getfield 7, 3) := by decide +kernel
theorem dX5_reportsBy_9 : decode cX5_reportsBy 9 = .ok (.bipush 6, 2) := by decide +kernel
theorem dX5_reportsBy_11 : decode cX5_reportsBy 11 = .ok (.iaload, 1) := by decide +kernel
theorem dX5_reportsBy_12 : decode cX5_reportsBy 12 = .ok (.if_icmp .ge 27, 3) := by decide +kernel
theorem dX5_reportsBy_15 : decode cX5_reportsBy 15 = .ok (.iload_n 2, 1) := by decide +kernel
theorem dX5_reportsBy_16 : decode cX5_reportsBy 16 = .ok (.aload_n 0, 1) := by decide +kernel
theorem dX5_reportsBy_17 : decode cX5_reportsBy 17 = .ok (.iload_n 3, 1) := by decide +kernel
theorem dX5_reportsBy_18 : decode cX5_reportsBy 18 = .ok (.iconst 0, 1) := by decide +kernel
theorem dX5_reportsBy_19 : decode cX5_reportsBy 19 = .ok (.invokevirtual 53, 3) := by decide +kernel
theorem dX5_reportsBy_22 : decode cX5_reportsBy 22 = .ok (.iload_n 1, 1) := by decide +kernel
theorem dX5_reportsBy_23 : decode cX5_reportsBy 23 = .ok (.if_icmp .ne 7, 3) := by decide +kernel
theorem dX5_reportsBy_26 : decode cX5_reportsBy 26 = .ok (.iconst 1, 1) := by decide +kernel
theorem dX5_reportsBy_27 : decode cX5_reportsBy 27 = .ok (.goto 4, 3) := by decide +kernel
theorem dX5_reportsBy_30 : decode cX5_reportsBy 30 = .ok (.iconst 0, 1) := by decide +kernel
theorem dX5_reportsBy_31 : decode cX5_reportsBy 31 = .ok (.iadd, 1) := by decide +kernel
theorem dX5_reportsBy_32 : decode cX5_reportsBy 32 = .ok (.istore_n 2, 1) := by decide +kernel
theorem dX5_reportsBy_33 : decode cX5_reportsBy 33 = .ok (.iinc 3 1, 3) := by decide +kernel
theorem dX5_reportsBy_36 : decode cX5_reportsBy 36 = .ok (.goto (-32), 3) := by decide +kernel
theorem dX5_reportsBy_39 : decode cX5_reportsBy 39 = .ok (.iload_n 2, 1) := by decide +kernel
theorem dX5_reportsBy_40 : decode cX5_reportsBy 40 = .ok (.ireturn, 1) := by decide +kernel
theorem dX5_hunter_0 : decode cX5_hunter 0 = .ok (.aload_n 0, 1) := by decide +kernel
theorem dX5_hunter_1 : decode cX5_hunter 1 = .ok (.iload_n 1, 1) := by decide +kernel
theorem dX5_hunter_2 : decode cX5_hunter 2 = .ok (.invokevirtual 46, 3) := by decide +kernel
theorem dX5_hunter_5 : decode cX5_hunter 5 = .ok (.ifCond .eq 12, 3) := by decide +kernel
theorem dX5_hunter_8 : decode cX5_hunter 8 = .ok (.iload_n 2, 1) := by decide +kernel
theorem dX5_hunter_9 : decode cX5_hunter 9 = .ok (.iconst 0, 1) := by decide +kernel
theorem dX5_hunter_10 : decode cX5_hunter 10 = .ok (.iconst 5, 1) := by decide +kernel
theorem dX5_hunter_11 : decode cX5_hunter 11 = .ok (.invokestatic 26, 3) := by decide +kernel
theorem dX5_hunter_14 : decode cX5_hunter 14 = .ok (.ifCond .ne 7, 3) := by decide +kernel
theorem dX5_hunter_17 : decode cX5_hunter 17 = .ok (.sipush (-10001), 3) := by decide +kernel
theorem dX5_hunter_20 : decode cX5_hunter 20 = .ok (.ireturn, 1) := by decide +kernel
theorem dX5_hunter_21 : decode cX5_hunter 21 = .ok (.iload_n 2, 1) := by decide +kernel
theorem dX5_hunter_22 : decode cX5_hunter 22 = .ok (.ifCond .ne 11, 3) := by decide +kernel
theorem dX5_hunter_25 : decode cX5_hunter 25 = .ok (.aload_n 0, 1) := by decide +kernel
theorem dX5_hunter_26 : decode cX5_hunter 26 = .ok (.iload_n 1, 1) := by decide +kernel
theorem dX5_hunter_27 : decode cX5_hunter 27 = .ok (.invokevirtual 127, 3) := by decide +kernel
theorem dX5_hunter_30 : decode cX5_hunter 30 = .ok (.goto 46, 3) := by decide +kernel
theorem dX5_hunter_33 : decode cX5_hunter 33 = .ok (.iload_n 2, 1) := by decide +kernel
theorem dX5_hunter_34 : decode cX5_hunter 34 = .ok (.iconst 1, 1) := by decide +kernel
theorem dX5_hunter_35 : decode cX5_hunter 35 = .ok (.if_icmp .ne 16, 3) := by decide +kernel
theorem dX5_hunter_38 : decode cX5_hunter 38 = .ok (.aload_n 0, 1) := by decide +kernel
theorem dX5_hunter_39 : decode cX5_hunter 39 = .ok (.getfield 7, 3) := by decide +kernel
theorem dX5_hunter_42 : decode cX5_hunter 42 = .ok (.iload_n 1, 1) := by decide +kernel
theorem dX5_hunter_43 : decode cX5_hunter 43 = .ok (.iconst 0, 1) := by decide +kernel
theorem dX5_hunter_44 : decode cX5_hunter 44 = .ok (.invokestatic 78, 3) := by decide +kernel
theorem dX5_hunter_47 : decode cX5_hunter 47 = .ok (.iaload, 1) := by decide +kernel
theorem dX5_hunter_48 : decode cX5_hunter 48 = .ok (.goto 28, 3) := by decide +kernel
theorem dX5_hunter_51 : decode cX5_hunter 51 = .ok (.iload_n 2, 1) := by decide +kernel
theorem dX5_hunter_52 : decode cX5_hunter 52 = .ok (.iconst 2, 1) := by decide +kernel
theorem dX5_hunter_53 : decode cX5_hunter 53 = .ok (.if_icmp .ne 11, 3) := by decide +kernel
theorem dX5_hunter_56 : decode cX5_hunter 56 = .ok (.aload_n 0, 1) := by decide +kernel
theorem dX5_hunter_57 : decode cX5_hunter 57 = .ok (.iload_n 1, 1) := by decide +kernel
theorem dX5_hunter_58 : decode cX5_hunter 58 = .ok (.invokevirtual 130, 3) := by decide +kernel
theorem dX5_hunter_61 : decode cX5_hunter 61 = .ok (.goto 15, 3) := by decide +kernel
theorem dX5_hunter_64 : decode cX5_hunter 64 = .ok (.aload_n 0, 1) := by decide +kernel
theorem dX5_hunter_65 : decode cX5_hunter 65 = .ok (.getfield 7, 3) := by decide +kernel
theorem dX5_hunter_68 : decode cX5_hunter 68 = .ok (.iload_n 1, 1) := by decide +kernel
theorem dX5_hunter_69 : decode cX5_hunter 69 = .ok (.iload_n 2, 1) := by decide +kernel
theorem dX5_hunter_70 : decode cX5_hunter 70 = .ok (.iconst 2, 1) := by decide +kernel
theorem dX5_hunter_71 : decode cX5_hunter 71 = .ok (.isub, 1) := by decide +kernel
theorem dX5_hunter_72 : decode cX5_hunter 72 = .ok (.invokestatic 78, 3) := by decide +kernel
theorem dX5_hunter_75 : decode cX5_hunter 75 = .ok (.iaload, 1) := by decide +kernel
theorem dX5_hunter_76 : decode cX5_hunter 76 = .ok (.ireturn, 1) := by decide +kernel
theorem dX5_foldedInto_0 : decode cX5_foldedInto 0 = .ok (.iconst 0, 1) := by decide +kernel
theorem dX5_foldedInto_1 : decode cX5_foldedInto 1 = .ok (.istore_n 2, 1) := by decide +kernel
theorem dX5_foldedInto_2 : decode cX5_foldedInto 2 = .ok (.iconst 0, 1) := by decide +kernel
theorem dX5_foldedInto_3 : decode cX5_foldedInto 3 = .ok (.istore_n 3, 1) := by decide +kernel
theorem dX5_foldedInto_4 : decode cX5_foldedInto 4 = .ok (.iload_n 3, 1) := by decide +kernel
theorem dX5_foldedInto_5 : decode cX5_foldedInto 5 = .ok (.aload_n 0, 1) := by decide +kernel
theorem dX5_foldedInto_6 : decode cX5_foldedInto 6 = .ok (.getfield 7, 3) := by decide +kernel
theorem dX5_foldedInto_9 : decode cX5_foldedInto 9 = .ok (.bipush 6, 2) := by decide +kernel
theorem dX5_foldedInto_11 : decode cX5_foldedInto 11 = .ok (.iaload, 1) := by decide +kernel
theorem dX5_foldedInto_12 : decode cX5_foldedInto 12 = .ok (.if_icmp .ge 37, 3) := by decide +kernel
theorem dX5_foldedInto_15 : decode cX5_foldedInto 15 = .ok (.iload_n 2, 1) := by decide +kernel
theorem dX5_foldedInto_16 : decode cX5_foldedInto 16 = .ok (.aload_n 0, 1) := by decide +kernel
theorem dX5_foldedInto_17 : decode cX5_foldedInto 17 = .ok (.iload_n 3, 1) := by decide +kernel
theorem dX5_foldedInto_18 : decode cX5_foldedInto 18 = .ok (.iconst 3, 1) := by decide +kernel
theorem dX5_foldedInto_19 : decode cX5_foldedInto 19 = .ok (.invokevirtual 53, 3) := by decide +kernel
theorem dX5_foldedInto_22 : decode cX5_foldedInto 22 = .ok (.iconst 5, 1) := by decide +kernel
theorem dX5_foldedInto_23 : decode cX5_foldedInto 23 = .ok (.if_icmp .ne 17, 3) := by decide +kernel
theorem dX5_foldedInto_26 : decode cX5_foldedInto 26 = .ok (.aload_n 0, 1) := by decide +kernel
theorem dX5_foldedInto_27 : decode cX5_foldedInto 27 = .ok (.iload_n 3, 1) := by decide +kernel
theorem dX5_foldedInto_28 : decode cX5_foldedInto 28 = .ok (.iconst 5, 1) := by decide +kernel
theorem dX5_foldedInto_29 : decode cX5_foldedInto 29 = .ok (.invokevirtual 53, 3) := by decide +kernel
theorem dX5_foldedInto_32 : decode cX5_foldedInto 32 = .ok (.iload_n 1, 1) := by decide +kernel
theorem dX5_foldedInto_33 : decode cX5_foldedInto 33 = .ok (.if_icmp .ne 7, 3) := by decide +kernel
theorem dX5_foldedInto_36 : decode cX5_foldedInto 36 = .ok (.iconst 1, 1) := by decide +kernel
theorem dX5_foldedInto_37 : decode cX5_foldedInto 37 = .ok (.goto 4, 3) := by decide +kernel
theorem dX5_foldedInto_40 : decode cX5_foldedInto 40 = .ok (.iconst 0, 1) := by decide +kernel
theorem dX5_foldedInto_41 : decode cX5_foldedInto 41 = .ok (.iadd, 1) := by decide +kernel
theorem dX5_foldedInto_42 : decode cX5_foldedInto 42 = .ok (.istore_n 2, 1) := by decide +kernel
theorem dX5_foldedInto_43 : decode cX5_foldedInto 43 = .ok (.iinc 3 1, 3) := by decide +kernel
theorem dX5_foldedInto_46 : decode cX5_foldedInto 46 = .ok (.goto (-42), 3) := by decide +kernel
theorem dX5_foldedInto_49 : decode cX5_foldedInto 49 = .ok (.iload_n 2, 1) := by decide +kernel
theorem dX5_foldedInto_50 : decode cX5_foldedInto 50 = .ok (.ireturn, 1) := by decide +kernel
theorem dX5_reportOf_0 : decode cX5_reportOf 0 = .ok (.aload_n 0, 1) := by decide +kernel
theorem dX5_reportOf_1 : decode cX5_reportOf 1 = .ok (.iload_n 1, 1) := by decide +kernel
theorem dX5_reportOf_2 : decode cX5_reportOf 2 = .ok (.invokevirtual 56, 3) := by decide +kernel
theorem dX5_reportOf_5 : decode cX5_reportOf 5 = .ok (.ifCond .ne 7, 3) := by decide +kernel
theorem dX5_reportOf_8 : decode cX5_reportOf 8 = .ok (.sipush (-10001), 3) := by decide +kernel
theorem dX5_reportOf_11 : decode cX5_reportOf 11 = .ok (.ireturn, 1) := by decide +kernel
theorem dX5_reportOf_12 : decode cX5_reportOf 12 = .ok (.aload_n 0, 1) := by decide +kernel
theorem dX5_reportOf_13 : decode cX5_reportOf 13 = .ok (.iload_n 1, 1) := by decide +kernel
theorem dX5_reportOf_14 : decode cX5_reportOf 14 = .ok (.iconst 3, 1) := by decide +kernel
theorem dX5_reportOf_15 : decode cX5_reportOf 15 = .ok (.invokevirtual 53, 3) := by decide +kernel
theorem dX5_reportOf_18 : decode cX5_reportOf 18 = .ok (.iconst 1, 1) := by decide +kernel
theorem dX5_reportOf_19 : decode cX5_reportOf 19 = .ok (.iconst 3, 1) := by decide +kernel
theorem dX5_reportOf_20 : decode cX5_reportOf 20 = .ok (.invokestatic 26, 3) := by decide +kernel
theorem dX5_reportOf_23 : decode cX5_reportOf 23 = .ok (.istore_n 3, 1) := by decide +kernel
theorem dX5_reportOf_24 : decode cX5_reportOf 24 = .ok (.iload_n 2, 1) := by decide +kernel
theorem dX5_reportOf_25 : decode cX5_reportOf 25 = .ok (.tableswitch 166 0 12 #[67, 67, 67, 67, 74, 91, 98, 104, 120, 128, 136, 147, 158], 67) := by decide +kernel
theorem dX5_reportOf_92 : decode cX5_reportOf 92 = .ok (.aload_n 0, 1) := by decide +kernel
theorem dX5_reportOf_93 : decode cX5_reportOf 93 = .ok (.iload_n 1, 1) := by decide +kernel
theorem dX5_reportOf_94 : decode cX5_reportOf 94 = .ok (.iload_n 2, 1) := by decide +kernel
theorem dX5_reportOf_95 : decode cX5_reportOf 95 = .ok (.invokevirtual 53, 3) := by decide +kernel
theorem dX5_reportOf_98 : decode cX5_reportOf 98 = .ok (.ireturn, 1) := by decide +kernel
theorem dX5_reportOf_99 : decode cX5_reportOf 99 = .ok (.iload_n 3, 1) := by decide +kernel
theorem dX5_reportOf_100 : decode cX5_reportOf 100 = .ok (.ifCond .eq 12, 3) := by decide +kernel
theorem dX5_reportOf_103 : decode cX5_reportOf 103 = .ok (.aload_n 0, 1) := by decide +kernel
theorem dX5_reportOf_104 : decode cX5_reportOf 104 = .ok (.iload_n 1, 1) := by decide +kernel
theorem dX5_reportOf_105 : decode cX5_reportOf 105 = .ok (.iconst 4, 1) := by decide +kernel
theorem dX5_reportOf_106 : decode cX5_reportOf 106 = .ok (.invokevirtual 53, 3) := by decide +kernel
theorem dX5_reportOf_109 : decode cX5_reportOf 109 = .ok (.goto 6, 3) := by decide +kernel
theorem dX5_reportOf_112 : decode cX5_reportOf 112 = .ok (.sipush (-10009), 3) := by decide +kernel
theorem dX5_reportOf_115 : decode cX5_reportOf 115 = .ok (.ireturn, 1) := by decide +kernel
theorem dX5_reportOf_116 : decode cX5_reportOf 116 = .ok (.aload_n 0, 1) := by decide +kernel
theorem dX5_reportOf_117 : decode cX5_reportOf 117 = .ok (.iload_n 1, 1) := by decide +kernel
theorem dX5_reportOf_118 : decode cX5_reportOf 118 = .ok (.iconst 5, 1) := by decide +kernel
theorem dX5_reportOf_119 : decode cX5_reportOf 119 = .ok (.invokevirtual 53, 3) := by decide +kernel
theorem dX5_reportOf_122 : decode cX5_reportOf 122 = .ok (.ireturn, 1) := by decide +kernel
theorem dX5_reportOf_123 : decode cX5_reportOf 123 = .ok (.aload_n 0, 1) := by decide +kernel
theorem dX5_reportOf_124 : decode cX5_reportOf 124 = .ok (.iload_n 1, 1) := by decide +kernel
theorem dX5_reportOf_125 : decode cX5_reportOf 125 = .ok (.invokevirtual 133, 3) := by decide +kernel
theorem dX5_reportOf_128 : decode cX5_reportOf 128 = .ok (.ireturn, 1) := by decide +kernel
theorem dX5_reportOf_129 : decode cX5_reportOf 129 = .ok (.iload_n 3, 1) := by decide +kernel
theorem dX5_reportOf_130 : decode cX5_reportOf 130 = .ok (.ifCond .eq 11, 3) := by decide +kernel
theorem dX5_reportOf_133 : decode cX5_reportOf 133 = .ok (.aload_n 0, 1) := by decide +kernel
theorem dX5_reportOf_134 : decode cX5_reportOf 134 = .ok (.iload_n 1, 1) := by decide +kernel
theorem dX5_reportOf_135 : decode cX5_reportOf 135 = .ok (.invokevirtual 66, 3) := by decide +kernel
theorem dX5_reportOf_138 : decode cX5_reportOf 138 = .ok (.goto 6, 3) := by decide +kernel
theorem dX5_reportOf_141 : decode cX5_reportOf 141 = .ok (.sipush (-10009), 3) := by decide +kernel
theorem dX5_reportOf_144 : decode cX5_reportOf 144 = .ok (.ireturn, 1) := by decide +kernel
theorem dX5_reportOf_145 : decode cX5_reportOf 145 = .ok (.aload_n 0, 1) := by decide +kernel
theorem dX5_reportOf_146 : decode cX5_reportOf 146 = .ok (.iload_n 1, 1) := by decide +kernel
theorem dX5_reportOf_147 : decode cX5_reportOf 147 = .ok (.bipush 6, 2) := by decide +kernel
theorem dX5_reportOf_149 : decode cX5_reportOf 149 = .ok (.invokevirtual 53, 3) := by decide +kernel
theorem dX5_reportOf_152 : decode cX5_reportOf 152 = .ok (.ireturn, 1) := by decide +kernel
theorem dX5_reportOf_153 : decode cX5_reportOf 153 = .ok (.aload_n 0, 1) := by decide +kernel
theorem dX5_reportOf_154 : decode cX5_reportOf 154 = .ok (.iload_n 1, 1) := by decide +kernel
theorem dX5_reportOf_155 : decode cX5_reportOf 155 = .ok (.bipush 8, 2) := by decide +kernel
theorem dX5_reportOf_157 : decode cX5_reportOf 157 = .ok (.invokevirtual 53, 3) := by decide +kernel
theorem dX5_reportOf_160 : decode cX5_reportOf 160 = .ok (.ireturn, 1) := by decide +kernel
theorem dX5_reportOf_161 : decode cX5_reportOf 161 = .ok (.aload_n 0, 1) := by decide +kernel
theorem dX5_reportOf_162 : decode cX5_reportOf 162 = .ok (.iload_n 1, 1) := by decide +kernel
theorem dX5_reportOf_163 : decode cX5_reportOf 163 = .ok (.bipush 10, 2) := by decide +kernel
theorem dX5_reportOf_165 : decode cX5_reportOf 165 = .ok (.invokevirtual 53, 3) := by decide +kernel
theorem dX5_reportOf_168 : decode cX5_reportOf 168 = .ok (.invokestatic 95, 3) := by decide +kernel
theorem dX5_reportOf_171 : decode cX5_reportOf 171 = .ok (.ireturn, 1) := by decide +kernel
theorem dX5_reportOf_172 : decode cX5_reportOf 172 = .ok (.aload_n 0, 1) := by decide +kernel
theorem dX5_reportOf_173 : decode cX5_reportOf 173 = .ok (.iload_n 1, 1) := by decide +kernel
theorem dX5_reportOf_174 : decode cX5_reportOf 174 = .ok (.bipush 11, 2) := by decide +kernel
theorem dX5_reportOf_176 : decode cX5_reportOf 176 = .ok (.invokevirtual 53, 3) := by decide +kernel
theorem dX5_reportOf_179 : decode cX5_reportOf 179 = .ok (.invokestatic 95, 3) := by decide +kernel
theorem dX5_reportOf_182 : decode cX5_reportOf 182 = .ok (.ireturn, 1) := by decide +kernel
theorem dX5_reportOf_183 : decode cX5_reportOf 183 = .ok (.aload_n 0, 1) := by decide +kernel
theorem dX5_reportOf_184 : decode cX5_reportOf 184 = .ok (.iload_n 1, 1) := by decide +kernel
theorem dX5_reportOf_185 : decode cX5_reportOf 185 = .ok (.bipush 9, 2) := by decide +kernel
theorem dX5_reportOf_187 : decode cX5_reportOf 187 = .ok (.invokevirtual 53, 3) := by decide +kernel
theorem dX5_reportOf_190 : decode cX5_reportOf 190 = .ok (.ireturn, 1) := by decide +kernel
theorem dX5_reportOf_191 : decode cX5_reportOf 191 = .ok (.sipush (-10001), 3) := by decide +kernel
theorem dX5_reportOf_194 : decode cX5_reportOf 194 = .ok (.ireturn, 1) := by decide +kernel
theorem dX5_lack_0 : decode cX5_lack 0 = .ok (.iconst 0, 1) := by decide +kernel
theorem dX5_lack_1 : decode cX5_lack 1 = .ok (.istore_n 1, 1) := by decide +kernel
theorem dX5_lack_2 : decode cX5_lack 2 = .ok (.iload_n 1, 1) := by decide +kernel
theorem dX5_lack_3 : decode cX5_lack 3 = .ok (.aload_n 0, 1) := by decide +kernel
theorem dX5_lack_4 : decode cX5_lack 4 = .ok (.getfield 7, 3) := by decide +kernel
theorem dX5_lack_7 : decode cX5_lack 7 = .ok (.iconst 4, 1) := by decide +kernel
theorem dX5_lack_8 : decode cX5_lack 8 = .ok (.iaload, 1) := by decide +kernel
theorem dX5_lack_9 : decode cX5_lack 9 = .ok (.if_icmp .ge 25, 3) := by decide +kernel
theorem dX5_lack_12 : decode cX5_lack 12 = .ok (.aload_n 0, 1) := by decide +kernel
theorem dX5_lack_13 : decode cX5_lack 13 = .ok (.getfield 19, 3) := by decide +kernel
theorem dX5_lack_16 : decode cX5_lack 16 = .ok (.iload_n 1, 1) := by decide +kernel
theorem dX5_lack_17 : decode cX5_lack 17 = .ok (.aload_n 0, 1) := by decide +kernel
theorem dX5_lack_18 : decode cX5_lack 18 = .ok (.getfield 7, 3) := by decide +kernel
theorem dX5_lack_21 : decode cX5_lack 21 = .ok (.iload_n 1, 1) := by decide +kernel
theorem dX5_lack_22 : decode cX5_lack 22 = .ok (.iconst 2, 1) := by decide +kernel
theorem dX5_lack_23 : decode cX5_lack 23 = .ok (.invokestatic 37, 3) := by decide +kernel
theorem dX5_lack_26 : decode cX5_lack 26 = .ok (.iaload, 1) := by decide +kernel
theorem dX5_lack_27 : decode cX5_lack 27 = .ok (.iastore, 1) := by decide +kernel
theorem dX5_lack_28 : decode cX5_lack 28 = .ok (.iinc 1 1, 3) := by decide +kernel
theorem dX5_lack_31 : decode cX5_lack 31 = .ok (.goto (-29), 3) := by decide +kernel
theorem dX5_lack_34 : decode cX5_lack 34 = .ok (.iconst 0, 1) := by decide +kernel
theorem dX5_lack_35 : decode cX5_lack 35 = .ok (.istore_n 1, 1) := by decide +kernel
theorem dX5_lack_36 : decode cX5_lack 36 = .ok (.iconst 0, 1) := by decide +kernel
theorem dX5_lack_37 : decode cX5_lack 37 = .ok (.istore_n 2, 1) := by decide +kernel
theorem dX5_lack_38 : decode cX5_lack 38 = .ok (.iload_n 2, 1) := by decide +kernel
theorem dX5_lack_39 : decode cX5_lack 39 = .ok (.aload_n 0, 1) := by decide +kernel
theorem dX5_lack_40 : decode cX5_lack 40 = .ok (.getfield 7, 3) := by decide +kernel
theorem dX5_lack_43 : decode cX5_lack 43 = .ok (.bipush 6, 2) := by decide +kernel
theorem dX5_lack_45 : decode cX5_lack 45 = .ok (.iaload, 1) := by decide +kernel
theorem dX5_lack_46 : decode cX5_lack 46 = .ok (.if_icmp .ge 62, 3) := by decide +kernel
theorem dX5_lack_49 : decode cX5_lack 49 = .ok (.aload_n 0, 1) := by decide +kernel
theorem dX5_lack_50 : decode cX5_lack 50 = .ok (.iload_n 2, 1) := by decide +kernel
theorem dX5_lack_51 : decode cX5_lack 51 = .ok (.invokevirtual 75, 3) := by decide +kernel
theorem dX5_lack_54 : decode cX5_lack 54 = .ok (.ifCond .eq 48, 3) := by decide +kernel
theorem dX5_lack_57 : decode cX5_lack 57 = .ok (.aload_n 0, 1) := by decide +kernel
theorem dX5_lack_58 : decode cX5_lack 58 = .ok (.getfield 19, 3) := by decide +kernel
theorem dX5_lack_61 : decode cX5_lack 61 = .ok (.aload_n 0, 1) := by decide +kernel
theorem dX5_lack_62 : decode cX5_lack 62 = .ok (.iload_n 2, 1) := by decide +kernel
theorem dX5_lack_63 : decode cX5_lack 63 = .ok (.iconst 1, 1) := by decide +kernel
theorem dX5_lack_64 : decode cX5_lack 64 = .ok (.invokevirtual 53, 3) := by decide +kernel
theorem dX5_lack_67 : decode cX5_lack 67 = .ok (.iaload, 1) := by decide +kernel
theorem dX5_lack_68 : decode cX5_lack 68 = .ok (.aload_n 0, 1) := by decide +kernel
theorem dX5_lack_69 : decode cX5_lack 69 = .ok (.iload_n 2, 1) := by decide +kernel
theorem dX5_lack_70 : decode cX5_lack 70 = .ok (.invokevirtual 66, 3) := by decide +kernel
theorem dX5_lack_73 : decode cX5_lack 73 = .ok (.invokestatic 81, 3) := by decide +kernel
theorem dX5_lack_76 : decode cX5_lack 76 = .ok (.istore_n 3, 1) := by decide +kernel
theorem dX5_lack_77 : decode cX5_lack 77 = .ok (.aload_n 0, 1) := by decide +kernel
theorem dX5_lack_78 : decode cX5_lack 78 = .ok (.getfield 19, 3) := by decide +kernel
theorem dX5_lack_81 : decode cX5_lack 81 = .ok (.aload_n 0, 1) := by decide +kernel
theorem dX5_lack_82 : decode cX5_lack 82 = .ok (.iload_n 2, 1) := by decide +kernel
theorem dX5_lack_83 : decode cX5_lack 83 = .ok (.iconst 1, 1) := by decide +kernel
theorem dX5_lack_84 : decode cX5_lack 84 = .ok (.invokevirtual 53, 3) := by decide +kernel
theorem dX5_lack_87 : decode cX5_lack 87 = .ok (.dup2, 1) := by decide +kernel
theorem dX5_lack_88 : decode cX5_lack 88 = .ok (.iaload, 1) := by decide +kernel
theorem dX5_lack_89 : decode cX5_lack 89 = .ok (.iload_n 3, 1) := by decide +kernel
theorem dX5_lack_90 : decode cX5_lack 90 = .ok (.isub, 1) := by decide +kernel
theorem dX5_lack_91 : decode cX5_lack 91 = .ok (.iastore, 1) := by decide +kernel
theorem dX5_lack_92 : decode cX5_lack 92 = .ok (.iload_n 1, 1) := by decide +kernel
theorem dX5_lack_93 : decode cX5_lack 93 = .ok (.aload_n 0, 1) := by decide +kernel
theorem dX5_lack_94 : decode cX5_lack 94 = .ok (.iload_n 2, 1) := by decide +kernel
theorem dX5_lack_95 : decode cX5_lack 95 = .ok (.invokevirtual 66, 3) := by decide +kernel
theorem dX5_lack_98 : decode cX5_lack 98 = .ok (.iload_n 3, 1) := by decide +kernel
theorem dX5_lack_99 : decode cX5_lack 99 = .ok (.isub, 1) := by decide +kernel
theorem dX5_lack_100 : decode cX5_lack 100 = .ok (.iadd, 1) := by decide +kernel
theorem dX5_lack_101 : decode cX5_lack 101 = .ok (.istore_n 1, 1) := by decide +kernel
theorem dX5_lack_102 : decode cX5_lack 102 = .ok (.iinc 2 1, 3) := by decide +kernel
theorem dX5_lack_105 : decode cX5_lack 105 = .ok (.goto (-67), 3) := by decide +kernel
theorem dX5_lack_108 : decode cX5_lack 108 = .ok (.iload_n 1, 1) := by decide +kernel
theorem dX5_lack_109 : decode cX5_lack 109 = .ok (.aload_n 0, 1) := by decide +kernel
theorem dX5_lack_110 : decode cX5_lack 110 = .ok (.getfield 7, 3) := by decide +kernel
theorem dX5_lack_113 : decode cX5_lack 113 = .ok (.iconst 1, 1) := by decide +kernel
theorem dX5_lack_114 : decode cX5_lack 114 = .ok (.iaload, 1) := by decide +kernel
theorem dX5_lack_115 : decode cX5_lack 115 = .ok (.if_icmp .le 14, 3) := by decide +kernel
theorem dX5_lack_118 : decode cX5_lack 118 = .ok (.iload_n 1, 1) := by decide +kernel
theorem dX5_lack_119 : decode cX5_lack 119 = .ok (.aload_n 0, 1) := by decide +kernel
theorem dX5_lack_120 : decode cX5_lack 120 = .ok (.getfield 7, 3) := by decide +kernel
theorem dX5_lack_123 : decode cX5_lack 123 = .ok (.iconst 1, 1) := by decide +kernel
theorem dX5_lack_124 : decode cX5_lack 124 = .ok (.iaload, 1) := by decide +kernel
theorem dX5_lack_125 : decode cX5_lack 125 = .ok (.isub, 1) := by decide +kernel
theorem dX5_lack_126 : decode cX5_lack 126 = .ok (.goto 4, 3) := by decide +kernel
theorem dX5_lack_129 : decode cX5_lack 129 = .ok (.iconst 0, 1) := by decide +kernel
theorem dX5_lack_130 : decode cX5_lack 130 = .ok (.ireturn, 1) := by decide +kernel
theorem dX5_isAhead_0 : decode cX5_isAhead 0 = .ok (.aload_n 0, 1) := by decide +kernel
theorem dX5_isAhead_1 : decode cX5_isAhead 1 = .ok (.iload_n 1, 1) := by decide +kernel
theorem dX5_isAhead_2 : decode cX5_isAhead 2 = .ok (.invokevirtual 130, 3) := by decide +kernel
theorem dX5_isAhead_5 : decode cX5_isAhead 5 = .ok (.aload_n 0, 1) := by decide +kernel
theorem dX5_isAhead_6 : decode cX5_isAhead 6 = .ok (.iload_n 2, 1) := by decide +kernel
theorem dX5_isAhead_7 : decode cX5_isAhead 7 = .ok (.invokevirtual 130, 3) := by decide +kernel
theorem dX5_isAhead_10 : decode cX5_isAhead 10 = .ok (.isub, 1) := by decide +kernel
theorem dX5_isAhead_11 : decode cX5_isAhead 11 = .ok (.istore_n 3, 1) := by decide +kernel
theorem dX5_isAhead_12 : decode cX5_isAhead 12 = .ok (.iload_n 3, 1) := by decide +kernel
theorem dX5_isAhead_13 : decode cX5_isAhead 13 = .ok (.ifCond .ne 27, 3) := by decide +kernel
theorem dX5_isAhead_16 : decode cX5_isAhead 16 = .ok (.aload_n 0, 1) := by decide +kernel
theorem dX5_isAhead_17 : decode cX5_isAhead 17 = .ok (.getfield 7, 3) := by decide +kernel
theorem dX5_isAhead_20 : decode cX5_isAhead 20 = .ok (.iload_n 1, 1) := by decide +kernel
theorem dX5_isAhead_21 : decode cX5_isAhead 21 = .ok (.iconst 0, 1) := by decide +kernel
theorem dX5_isAhead_22 : decode cX5_isAhead 22 = .ok (.invokestatic 78, 3) := by decide +kernel
theorem dX5_isAhead_25 : decode cX5_isAhead 25 = .ok (.iaload, 1) := by decide +kernel
theorem dX5_isAhead_26 : decode cX5_isAhead 26 = .ok (.aload_n 0, 1) := by decide +kernel
theorem dX5_isAhead_27 : decode cX5_isAhead 27 = .ok (.getfield 7, 3) := by decide +kernel
theorem dX5_isAhead_30 : decode cX5_isAhead 30 = .ok (.iload_n 2, 1) := by decide +kernel
theorem dX5_isAhead_31 : decode cX5_isAhead 31 = .ok (.iconst 0, 1) := by decide +kernel
theorem dX5_isAhead_32 : decode cX5_isAhead 32 = .ok (.invokestatic 78, 3) := by decide +kernel
theorem dX5_isAhead_35 : decode cX5_isAhead 35 = .ok (.iaload, 1) := by decide +kernel
theorem dX5_isAhead_36 : decode cX5_isAhead 36 = .ok (.isub, 1) := by decide +kernel
theorem dX5_isAhead_37 : decode cX5_isAhead 37 = .ok (.goto 4, 3) := by decide +kernel
theorem dX5_isAhead_40 : decode cX5_isAhead 40 = .ok (.iload_n 3, 1) := by decide +kernel
theorem dX5_isAhead_41 : decode cX5_isAhead 41 = .ok (.istore_n 3, 1) := by decide +kernel
theorem dX5_isAhead_42 : decode cX5_isAhead 42 = .ok (.iload_n 3, 1) := by decide +kernel
theorem dX5_isAhead_43 : decode cX5_isAhead 43 = .ok (.ifCond .gt 12, 3) := by decide +kernel
theorem dX5_isAhead_46 : decode cX5_isAhead 46 = .ok (.iload_n 3, 1) := by decide +kernel
theorem dX5_isAhead_47 : decode cX5_isAhead 47 = .ok (.ifCond .ne 12, 3) := by decide +kernel
theorem dX5_isAhead_50 : decode cX5_isAhead 50 = .ok (.iload_n 1, 1) := by decide +kernel
theorem dX5_isAhead_51 : decode cX5_isAhead 51 = .ok (.iload_n 2, 1) := by decide +kernel
theorem dX5_isAhead_52 : decode cX5_isAhead 52 = .ok (.if_icmp .ge 7, 3) := by decide +kernel
theorem dX5_isAhead_55 : decode cX5_isAhead 55 = .ok (.iconst 1, 1) := by decide +kernel
theorem dX5_isAhead_56 : decode cX5_isAhead 56 = .ok (.goto 4, 3) := by decide +kernel
theorem dX5_isAhead_59 : decode cX5_isAhead 59 = .ok (.iconst 0, 1) := by decide +kernel
theorem dX5_isAhead_60 : decode cX5_isAhead 60 = .ok (.ireturn, 1) := by decide +kernel
theorem dX5_best_0 : decode cX5_best 0 = .ok (.iload_n 1, 1) := by decide +kernel
theorem dX5_best_1 : decode cX5_best 1 = .ok (.ifCond .ge 7, 3) := by decide +kernel
theorem dX5_best_4 : decode cX5_best 4 = .ok (.sipush (-10001), 3) := by decide +kernel
theorem dX5_best_7 : decode cX5_best 7 = .ok (.ireturn, 1) := by decide +kernel
theorem dX5_best_8 : decode cX5_best 8 = .ok (.iconst 0, 1) := by decide +kernel
theorem dX5_best_9 : decode cX5_best 9 = .ok (.istore_n 2, 1) := by decide +kernel
theorem dX5_best_10 : decode cX5_best 10 = .ok (.iload_n 2, 1) := by decide +kernel
theorem dX5_best_11 : decode cX5_best 11 = .ok (.aload_n 0, 1) := by decide +kernel
theorem dX5_best_12 : decode cX5_best 12 = .ok (.getfield 7, 3) := by decide +kernel
theorem dX5_best_15 : decode cX5_best 15 = .ok (.iconst 5, 1) := by decide +kernel
theorem dX5_best_16 : decode cX5_best 16 = .ok (.iaload, 1) := by decide +kernel
theorem dX5_best_17 : decode cX5_best 17 = .ok (.if_icmp .ge 56, 3) := by decide +kernel
theorem dX5_best_20 : decode cX5_best 20 = .ok (.iconst 0, 1) := by decide +kernel
theorem dX5_best_21 : decode cX5_best 21 = .ok (.istore_n 3, 1) := by decide +kernel
theorem dX5_best_22 : decode cX5_best 22 = .ok (.iconst 0, 1) := by decide +kernel
theorem dX5_best_23 : decode cX5_best 23 = .ok (.istore 4, 2) := by decide +kernel
theorem dX5_best_25 : decode cX5_best 25 = .ok (.iload 4, 2) := by decide +kernel
theorem dX5_best_27 : decode cX5_best 27 = .ok (.aload_n 0, 1) := by decide +kernel
theorem dX5_best_28 : decode cX5_best 28 = .ok (.getfield 7, 3) := by decide +kernel
theorem dX5_best_31 : decode cX5_best 31 = .ok (.iconst 5, 1) := by decide +kernel
theorem dX5_best_32 : decode cX5_best 32 = .ok (.iaload, 1) := by decide +kernel
theorem dX5_best_33 : decode cX5_best 33 = .ok (.if_icmp .ge 27, 3) := by decide +kernel
theorem dX5_best_36 : decode cX5_best 36 = .ok (.iload_n 3, 1) := by decide +kernel
theorem dX5_best_37 : decode cX5_best 37 = .ok (.aload_n 0, 1) := by decide +kernel
theorem dX5_best_38 : decode cX5_best 38 = .ok (.iload 4, 2) := by decide +kernel
theorem dX5_best_40 : decode cX5_best 40 = .ok (.iload_n 2, 1) := by decide +kernel
theorem dX5_best_41 : decode cX5_best 41 = .ok (.invokevirtual 136, 3) := by decide +kernel
theorem dX5_best_44 : decode cX5_best 44 = .ok (.ifCond .eq 7, 3) := by decide +kernel
theorem dX5_best_47 : decode cX5_best 47 = .ok (.iconst 1, 1) := by decide +kernel
theorem dX5_best_48 : decode cX5_best 48 = .ok (.goto 4, 3) := by decide +kernel
theorem dX5_best_51 : decode cX5_best 51 = .ok (.iconst 0, 1) := by decide +kernel
theorem dX5_best_52 : decode cX5_best 52 = .ok (.iadd, 1) := by decide +kernel
theorem dX5_best_53 : decode cX5_best 53 = .ok (.istore_n 3, 1) := by decide +kernel
theorem dX5_best_54 : decode cX5_best 54 = .ok (.iinc 4 1, 3) := by decide +kernel
theorem dX5_best_57 : decode cX5_best 57 = .ok (.goto (-32), 3) := by decide +kernel
theorem dX5_best_60 : decode cX5_best 60 = .ok (.iload_n 3, 1) := by decide +kernel
theorem dX5_best_61 : decode cX5_best 61 = .ok (.iload_n 1, 1) := by decide +kernel
theorem dX5_best_62 : decode cX5_best 62 = .ok (.if_icmp .ne 5, 3) := by decide +kernel
theorem dX5_best_65 : decode cX5_best 65 = .ok (.iload_n 2, 1) := by decide +kernel
theorem dX5_best_66 : decode cX5_best 66 = .ok (.ireturn, 1) := by decide +kernel
theorem dX5_best_67 : decode cX5_best 67 = .ok (.iinc 2 1, 3) := by decide +kernel
theorem dX5_best_70 : decode cX5_best 70 = .ok (.goto (-60), 3) := by decide +kernel
theorem dX5_best_73 : decode cX5_best 73 = .ok (.sipush (-10009), 3) := by decide +kernel
theorem dX5_best_76 : decode cX5_best 76 = .ok (.ireturn, 1) := by decide +kernel
theorem dX5_paidIn_0 : decode cX5_paidIn 0 = .ok (.aload_n 0, 1) := by decide +kernel
theorem dX5_paidIn_1 : decode cX5_paidIn 1 = .ok (.iload_n 1, 1) := by decide +kernel
theorem dX5_paidIn_2 : decode cX5_paidIn 2 = .ok (.invokevirtual 56, 3) := by decide +kernel
theorem dX5_paidIn_5 : decode cX5_paidIn 5 = .ok (.ifCond .ne 7, 3) := by decide +kernel
theorem dX5_paidIn_8 : decode cX5_paidIn 8 = .ok (.sipush (-10001), 3) := by decide +kernel
theorem dX5_paidIn_11 : decode cX5_paidIn 11 = .ok (.ireturn, 1) := by decide +kernel
theorem dX5_paidIn_12 : decode cX5_paidIn 12 = .ok (.aload_n 0, 1) := by decide +kernel
theorem dX5_paidIn_13 : decode cX5_paidIn 13 = .ok (.iload_n 1, 1) := by decide +kernel
theorem dX5_paidIn_14 : decode cX5_paidIn 14 = .ok (.iconst 3, 1) := by decide +kernel
theorem dX5_paidIn_15 : decode cX5_paidIn 15 = .ok (.invokevirtual 53, 3) := by decide +kernel
theorem dX5_paidIn_18 : decode cX5_paidIn 18 = .ok (.iconst 2, 1) := by decide +kernel
theorem dX5_paidIn_19 : decode cX5_paidIn 19 = .ok (.if_icmp .eq 7, 3) := by decide +kernel
theorem dX5_paidIn_22 : decode cX5_paidIn 22 = .ok (.sipush (-10002), 3) := by decide +kernel
theorem dX5_paidIn_25 : decode cX5_paidIn 25 = .ok (.ireturn, 1) := by decide +kernel
theorem dX5_paidIn_26 : decode cX5_paidIn 26 = .ok (.iconst 0, 1) := by decide +kernel
theorem dX5_paidIn_27 : decode cX5_paidIn 27 = .ok (.istore_n 2, 1) := by decide +kernel
theorem dX5_paidIn_28 : decode cX5_paidIn 28 = .ok (.iload_n 2, 1) := by decide +kernel
theorem dX5_paidIn_29 : decode cX5_paidIn 29 = .ok (.sipush 539, 3) := by decide +kernel
theorem dX5_paidIn_32 : decode cX5_paidIn 32 = .ok (.if_icmp .ge 21, 3) := by decide +kernel
theorem dX5_paidIn_35 : decode cX5_paidIn 35 = .ok (.aload_n 0, 1) := by decide +kernel
theorem dX5_paidIn_36 : decode cX5_paidIn 36 = .ok (.getfield 16, 3) := by decide +kernel
theorem dX5_paidIn_39 : decode cX5_paidIn 39 = .ok (.iload_n 2, 1) := by decide +kernel
theorem dX5_paidIn_40 : decode cX5_paidIn 40 = .ok (.aload_n 0, 1) := by decide +kernel
theorem dX5_paidIn_41 : decode cX5_paidIn 41 = .ok (.getfield 7, 3) := by decide +kernel
theorem dX5_paidIn_44 : decode cX5_paidIn 44 = .ok (.iload_n 2, 1) := by decide +kernel
theorem dX5_paidIn_45 : decode cX5_paidIn 45 = .ok (.iaload, 1) := by decide +kernel
theorem dX5_paidIn_46 : decode cX5_paidIn 46 = .ok (.iastore, 1) := by decide +kernel
theorem dX5_paidIn_47 : decode cX5_paidIn 47 = .ok (.iinc 2 1, 3) := by decide +kernel
theorem dX5_paidIn_50 : decode cX5_paidIn 50 = .ok (.goto (-22), 3) := by decide +kernel
theorem dX5_paidIn_53 : decode cX5_paidIn 53 = .ok (.bipush 90, 2) := by decide +kernel
theorem dX5_paidIn_55 : decode cX5_paidIn 55 = .ok (.aload_n 0, 1) := by decide +kernel
theorem dX5_paidIn_56 : decode cX5_paidIn 56 = .ok (.getfield 7, 3) := by decide +kernel
theorem dX5_paidIn_59 : decode cX5_paidIn 59 = .ok (.iconst 0, 1) := by decide +kernel
theorem dX5_paidIn_60 : decode cX5_paidIn 60 = .ok (.iaload, 1) := by decide +kernel
theorem dX5_paidIn_61 : decode cX5_paidIn 61 = .ok (.bipush 90, 2) := by decide +kernel
theorem dX5_paidIn_63 : decode cX5_paidIn 63 = .ok (.irem, 1) := by decide +kernel
theorem dX5_paidIn_64 : decode cX5_paidIn 64 = .ok (.isub, 1) := by decide +kernel
theorem dX5_paidIn_65 : decode cX5_paidIn 65 = .ok (.istore_n 2, 1) := by decide +kernel
theorem dX5_paidIn_66 : decode cX5_paidIn 66 = .ok (.sipush (-10009), 3) := by decide +kernel
theorem dX5_paidIn_69 : decode cX5_paidIn 69 = .ok (.istore_n 3, 1) := by decide +kernel
theorem dX5_paidIn_70 : decode cX5_paidIn 70 = .ok (.iconst 0, 1) := by decide +kernel
theorem dX5_paidIn_71 : decode cX5_paidIn 71 = .ok (.istore 4, 2) := by decide +kernel
theorem dX5_paidIn_73 : decode cX5_paidIn 73 = .ok (.iload 4, 2) := by decide +kernel
theorem dX5_paidIn_75 : decode cX5_paidIn 75 = .ok (.bipush 12, 2) := by decide +kernel
theorem dX5_paidIn_77 : decode cX5_paidIn 77 = .ok (.if_icmp .ge 48, 3) := by decide +kernel
theorem dX5_paidIn_80 : decode cX5_paidIn 80 = .ok (.iload_n 3, 1) := by decide +kernel
theorem dX5_paidIn_81 : decode cX5_paidIn 81 = .ok (.sipush (-10009), 3) := by decide +kernel
theorem dX5_paidIn_84 : decode cX5_paidIn 84 = .ok (.if_icmp .ne 41, 3) := by decide +kernel
theorem dX5_paidIn_87 : decode cX5_paidIn 87 = .ok (.aload_n 0, 1) := by decide +kernel
theorem dX5_paidIn_88 : decode cX5_paidIn 88 = .ok (.invokevirtual 91, 3) := by decide +kernel
theorem dX5_paidIn_91 : decode cX5_paidIn 91 = .ok (.istore 5, 2) := by decide +kernel
theorem dX5_paidIn_93 : decode cX5_paidIn 93 = .ok (.iload 5, 2) := by decide +kernel
theorem dX5_paidIn_95 : decode cX5_paidIn 95 = .ok (.ifCond .le 17, 3) := by decide +kernel
theorem dX5_paidIn_98 : decode cX5_paidIn 98 = .ok (.aload_n 0, 1) := by decide +kernel
theorem dX5_paidIn_99 : decode cX5_paidIn 99 = .ok (.iload_n 1, 1) := by decide +kernel
theorem dX5_paidIn_100 : decode cX5_paidIn 100 = .ok (.iconst 3, 1) := by decide +kernel
theorem dX5_paidIn_101 : decode cX5_paidIn 101 = .ok (.invokevirtual 53, 3) := by decide +kernel
theorem dX5_paidIn_104 : decode cX5_paidIn 104 = .ok (.iconst 3, 1) := by decide +kernel
theorem dX5_paidIn_105 : decode cX5_paidIn 105 = .ok (.if_icmp .ne 7, 3) := by decide +kernel
theorem dX5_paidIn_108 : decode cX5_paidIn 108 = .ok (.iload_n 2, 1) := by decide +kernel
theorem dX5_paidIn_109 : decode cX5_paidIn 109 = .ok (.goto 6, 3) := by decide +kernel
theorem dX5_paidIn_112 : decode cX5_paidIn 112 = .ok (.sipush (-10009), 3) := by decide +kernel
theorem dX5_paidIn_115 : decode cX5_paidIn 115 = .ok (.istore_n 3, 1) := by decide +kernel
theorem dX5_paidIn_116 : decode cX5_paidIn 116 = .ok (.iinc 2 90, 3) := by decide +kernel
theorem dX5_paidIn_119 : decode cX5_paidIn 119 = .ok (.iinc 4 1, 3) := by decide +kernel
theorem dX5_paidIn_122 : decode cX5_paidIn 122 = .ok (.goto (-49), 3) := by decide +kernel
theorem dX5_paidIn_125 : decode cX5_paidIn 125 = .ok (.iconst 0, 1) := by decide +kernel
theorem dX5_paidIn_126 : decode cX5_paidIn 126 = .ok (.istore 4, 2) := by decide +kernel
theorem dX5_paidIn_128 : decode cX5_paidIn 128 = .ok (.iload 4, 2) := by decide +kernel
theorem dX5_paidIn_130 : decode cX5_paidIn 130 = .ok (.sipush 539, 3) := by decide +kernel
theorem dX5_paidIn_133 : decode cX5_paidIn 133 = .ok (.if_icmp .ge 23, 3) := by decide +kernel
theorem dX5_paidIn_136 : decode cX5_paidIn 136 = .ok (.aload_n 0, 1) := by decide +kernel
theorem dX5_paidIn_137 : decode cX5_paidIn 137 = .ok (.getfield 7, 3) := by decide +kernel
theorem dX5_paidIn_140 : decode cX5_paidIn 140 = .ok (.iload 4, 2) := by decide +kernel
theorem dX5_paidIn_142 : decode cX5_paidIn 142 = .ok (.aload_n 0, 1) := by decide +kernel
theorem dX5_paidIn_143 : decode cX5_paidIn 143 = .ok (.getfield 16, 3) := by decide +kernel
theorem dX5_paidIn_146 : decode cX5_paidIn 146 = .ok (.iload 4, 2) := by decide +kernel
theorem dX5_paidIn_148 : decode cX5_paidIn 148 = .ok (.iaload, 1) := by decide +kernel
theorem dX5_paidIn_149 : decode cX5_paidIn 149 = .ok (.iastore, 1) := by decide +kernel
theorem dX5_paidIn_150 : decode cX5_paidIn 150 = .ok (.iinc 4 1, 3) := by decide +kernel
theorem dX5_paidIn_153 : decode cX5_paidIn 153 = .ok (.goto (-25), 3) := by decide +kernel
theorem dX5_paidIn_156 : decode cX5_paidIn 156 = .ok (.iload_n 3, 1) := by decide +kernel
theorem dX5_paidIn_157 : decode cX5_paidIn 157 = .ok (.ireturn, 1) := by decide +kernel
theorem dJ6_bitCount_0f7a4_0 : decode cJ6_bitCount_0f7a4 0 = .ok (.iload_n 0, 1) := by decide +kernel
theorem dJ6_bitCount_0f7a4_1 : decode cJ6_bitCount_0f7a4 1 = .ok (.iload_n 0, 1) := by decide +kernel
theorem dJ6_bitCount_0f7a4_2 : decode cJ6_bitCount_0f7a4 2 = .ok (.iconst 1, 1) := by decide +kernel
theorem dJ6_bitCount_0f7a4_3 : decode cJ6_bitCount_0f7a4 3 = .ok (.iushr, 1) := by decide +kernel
theorem dJ6_bitCount_0f7a4_4 : decode cJ6_bitCount_0f7a4 4 = .ok (.ldc_w 265, 3) := by decide +kernel
theorem dJ6_bitCount_0f7a4_7 : decode cJ6_bitCount_0f7a4 7 = .ok (.iand, 1) := by decide +kernel
theorem dJ6_bitCount_0f7a4_8 : decode cJ6_bitCount_0f7a4 8 = .ok (.isub, 1) := by decide +kernel
theorem dJ6_bitCount_0f7a4_9 : decode cJ6_bitCount_0f7a4 9 = .ok (.istore_n 0, 1) := by decide +kernel
theorem dJ6_bitCount_0f7a4_10 : decode cJ6_bitCount_0f7a4 10 = .ok (.iload_n 0, 1) := by decide +kernel
theorem dJ6_bitCount_0f7a4_11 : decode cJ6_bitCount_0f7a4 11 = .ok (.ldc_w 266, 3) := by decide +kernel
theorem dJ6_bitCount_0f7a4_14 : decode cJ6_bitCount_0f7a4 14 = .ok (.iand, 1) := by decide +kernel
theorem dJ6_bitCount_0f7a4_15 : decode cJ6_bitCount_0f7a4 15 = .ok (.iload_n 0, 1) := by decide +kernel
theorem dJ6_bitCount_0f7a4_16 : decode cJ6_bitCount_0f7a4 16 = .ok (.iconst 2, 1) := by decide +kernel
theorem dJ6_bitCount_0f7a4_17 : decode cJ6_bitCount_0f7a4 17 = .ok (.iushr, 1) := by decide +kernel
theorem dJ6_bitCount_0f7a4_18 : decode cJ6_bitCount_0f7a4 18 = .ok (.ldc_w 266, 3) := by decide +kernel
theorem dJ6_bitCount_0f7a4_21 : decode cJ6_bitCount_0f7a4 21 = .ok (.iand, 1) := by decide +kernel
theorem dJ6_bitCount_0f7a4_22 : decode cJ6_bitCount_0f7a4 22 = .ok (.iadd, 1) := by decide +kernel
theorem dJ6_bitCount_0f7a4_23 : decode cJ6_bitCount_0f7a4 23 = .ok (.istore_n 0, 1) := by decide +kernel
theorem dJ6_bitCount_0f7a4_24 : decode cJ6_bitCount_0f7a4 24 = .ok (.iload_n 0, 1) := by decide +kernel
theorem dJ6_bitCount_0f7a4_25 : decode cJ6_bitCount_0f7a4 25 = .ok (.iload_n 0, 1) := by decide +kernel
theorem dJ6_bitCount_0f7a4_26 : decode cJ6_bitCount_0f7a4 26 = .ok (.iconst 4, 1) := by decide +kernel
theorem dJ6_bitCount_0f7a4_27 : decode cJ6_bitCount_0f7a4 27 = .ok (.iushr, 1) := by decide +kernel
theorem dJ6_bitCount_0f7a4_28 : decode cJ6_bitCount_0f7a4 28 = .ok (.iadd, 1) := by decide +kernel
theorem dJ6_bitCount_0f7a4_29 : decode cJ6_bitCount_0f7a4 29 = .ok (.ldc_w 267, 3) := by decide +kernel
theorem dJ6_bitCount_0f7a4_32 : decode cJ6_bitCount_0f7a4 32 = .ok (.iand, 1) := by decide +kernel
theorem dJ6_bitCount_0f7a4_33 : decode cJ6_bitCount_0f7a4 33 = .ok (.istore_n 0, 1) := by decide +kernel
theorem dJ6_bitCount_0f7a4_34 : decode cJ6_bitCount_0f7a4 34 = .ok (.iload_n 0, 1) := by decide +kernel
theorem dJ6_bitCount_0f7a4_35 : decode cJ6_bitCount_0f7a4 35 = .ok (.iload_n 0, 1) := by decide +kernel
theorem dJ6_bitCount_0f7a4_36 : decode cJ6_bitCount_0f7a4 36 = .ok (.bipush 8, 2) := by decide +kernel
theorem dJ6_bitCount_0f7a4_38 : decode cJ6_bitCount_0f7a4 38 = .ok (.iushr, 1) := by decide +kernel
theorem dJ6_bitCount_0f7a4_39 : decode cJ6_bitCount_0f7a4 39 = .ok (.iadd, 1) := by decide +kernel
theorem dJ6_bitCount_0f7a4_40 : decode cJ6_bitCount_0f7a4 40 = .ok (.istore_n 0, 1) := by decide +kernel
theorem dJ6_bitCount_0f7a4_41 : decode cJ6_bitCount_0f7a4 41 = .ok (.iload_n 0, 1) := by decide +kernel
theorem dJ6_bitCount_0f7a4_42 : decode cJ6_bitCount_0f7a4 42 = .ok (.iload_n 0, 1) := by decide +kernel
theorem dJ6_bitCount_0f7a4_43 : decode cJ6_bitCount_0f7a4 43 = .ok (.bipush 16, 2) := by decide +kernel
theorem dJ6_bitCount_0f7a4_45 : decode cJ6_bitCount_0f7a4 45 = .ok (.iushr, 1) := by decide +kernel
theorem dJ6_bitCount_0f7a4_46 : decode cJ6_bitCount_0f7a4 46 = .ok (.iadd, 1) := by decide +kernel
theorem dJ6_bitCount_0f7a4_47 : decode cJ6_bitCount_0f7a4 47 = .ok (.istore_n 0, 1) := by decide +kernel
theorem dJ6_bitCount_0f7a4_48 : decode cJ6_bitCount_0f7a4 48 = .ok (.iload_n 0, 1) := by decide +kernel
theorem dJ6_bitCount_0f7a4_49 : decode cJ6_bitCount_0f7a4 49 = .ok (.bipush 63, 2) := by decide +kernel
theorem dJ6_bitCount_0f7a4_51 : decode cJ6_bitCount_0f7a4 51 = .ok (.iand, 1) := by decide +kernel
theorem dJ6_bitCount_0f7a4_52 : decode cJ6_bitCount_0f7a4 52 = .ok (.ireturn, 1) := by decide +kernel
theorem dJ9_max_7cf53_0 : decode cJ9_max_7cf53 0 = .ok (.iload_n 0, 1) := by decide +kernel
theorem dJ9_max_7cf53_1 : decode cJ9_max_7cf53 1 = .ok (.iload_n 1, 1) := by decide +kernel
theorem dJ9_max_7cf53_2 : decode cJ9_max_7cf53 2 = .ok (.if_icmp .lt 7, 3) := by decide +kernel
theorem dJ9_max_7cf53_5 : decode cJ9_max_7cf53 5 = .ok (.iload_n 0, 1) := by decide +kernel
theorem dJ9_max_7cf53_6 : decode cJ9_max_7cf53 6 = .ok (.goto 4, 3) := by decide +kernel
theorem dJ9_max_7cf53_9 : decode cJ9_max_7cf53 9 = .ok (.iload_n 1, 1) := by decide +kernel
theorem dJ9_max_7cf53_10 : decode cJ9_max_7cf53 10 = .ok (.ireturn, 1) := by decide +kernel
theorem dJ9_min_7cf53_0 : decode cJ9_min_7cf53 0 = .ok (.iload_n 0, 1) := by decide +kernel
theorem dJ9_min_7cf53_1 : decode cJ9_min_7cf53 1 = .ok (.iload_n 1, 1) := by decide +kernel
theorem dJ9_min_7cf53_2 : decode cJ9_min_7cf53 2 = .ok (.if_icmp .gt 7, 3) := by decide +kernel
theorem dJ9_min_7cf53_5 : decode cJ9_min_7cf53 5 = .ok (.iload_n 0, 1) := by decide +kernel
theorem dJ9_min_7cf53_6 : decode cJ9_min_7cf53 6 = .ok (.goto 4, 3) := by decide +kernel
theorem dJ9_min_7cf53_9 : decode cJ9_min_7cf53 9 = .ok (.iload_n 1, 1) := by decide +kernel
theorem dJ9_min_7cf53_10 : decode cJ9_min_7cf53 10 = .ok (.ireturn, 1) := by decide +kernel
theorem dL_law_0 : decode cL_law 0 = .ok (.new 7, 3) := by decide +kernel
theorem dL_law_3 : decode cL_law 3 = .ok (.dup, 1) := by decide +kernel
theorem dL_law_4 : decode cL_law 4 = .ok (.invokespecial 9, 3) := by decide +kernel
theorem dL_law_7 : decode cL_law 7 = .ok (.astore_n 1, 1) := by decide +kernel
theorem dL_law_8 : decode cL_law 8 = .ok (.new 10, 3) := by decide +kernel
theorem dL_law_11 : decode cL_law 11 = .ok (.dup, 1) := by decide +kernel
theorem dL_law_12 : decode cL_law 12 = .ok (.invokespecial 12, 3) := by decide +kernel
theorem dL_law_15 : decode cL_law 15 = .ok (.astore_n 2, 1) := by decide +kernel
theorem dL_law_16 : decode cL_law 16 = .ok (.iconst 0, 1) := by decide +kernel
theorem dL_law_17 : decode cL_law 17 = .ok (.istore_n 3, 1) := by decide +kernel
theorem dL_law_18 : decode cL_law 18 = .ok (.iload_n 3, 1) := by decide +kernel
theorem dL_law_19 : decode cL_law 19 = .ok (.aload_n 0, 1) := by decide +kernel
theorem dL_law_20 : decode cL_law 20 = .ok (.arraylength, 1) := by decide +kernel
theorem dL_law_21 : decode cL_law 21 = .ok (.iconst 4, 1) := by decide +kernel
theorem dL_law_22 : decode cL_law 22 = .ok (.isub, 1) := by decide +kernel
theorem dL_law_23 : decode cL_law 23 = .ok (.if_icmp .gt 732, 3) := by decide +kernel
theorem dL_law_26 : decode cL_law 26 = .ok (.aload_n 0, 1) := by decide +kernel
theorem dL_law_27 : decode cL_law 27 = .ok (.iload_n 3, 1) := by decide +kernel
theorem dL_law_28 : decode cL_law 28 = .ok (.iaload, 1) := by decide +kernel
theorem dL_law_29 : decode cL_law 29 = .ok (.bipush 31, 2) := by decide +kernel
theorem dL_law_31 : decode cL_law 31 = .ok (.iand, 1) := by decide +kernel
theorem dL_law_32 : decode cL_law 32 = .ok (.tableswitch 717 0 22 #[108, 141, 154, 177, 200, 223, 266, 289, 322, 345, 378, 411, 434, 477, 500, 513, 536, 569, 602, 635, 658, 671, 694], 108) := by decide +kernel
theorem dL_law_140 : decode cL_law 140 = .ok (.aload_n 1, 1) := by decide +kernel
theorem dL_law_141 : decode cL_law 141 = .ok (.aload_n 0, 1) := by decide +kernel
theorem dL_law_142 : decode cL_law 142 = .ok (.iload_n 3, 1) := by decide +kernel
theorem dL_law_143 : decode cL_law 143 = .ok (.iconst 1, 1) := by decide +kernel
theorem dL_law_144 : decode cL_law 144 = .ok (.iadd, 1) := by decide +kernel
theorem dL_law_145 : decode cL_law 145 = .ok (.iaload, 1) := by decide +kernel
theorem dL_law_146 : decode cL_law 146 = .ok (.aload_n 0, 1) := by decide +kernel
theorem dL_law_147 : decode cL_law 147 = .ok (.iload_n 3, 1) := by decide +kernel
theorem dL_law_148 : decode cL_law 148 = .ok (.iconst 2, 1) := by decide +kernel
theorem dL_law_149 : decode cL_law 149 = .ok (.iadd, 1) := by decide +kernel
theorem dL_law_150 : decode cL_law 150 = .ok (.iaload, 1) := by decide +kernel
theorem dL_law_151 : decode cL_law 151 = .ok (.invokevirtual 13, 3) := by decide +kernel
theorem dL_law_154 : decode cL_law 154 = .ok (.aload_n 2, 1) := by decide +kernel
theorem dL_law_155 : decode cL_law 155 = .ok (.aload_n 0, 1) := by decide +kernel
theorem dL_law_156 : decode cL_law 156 = .ok (.iload_n 3, 1) := by decide +kernel
theorem dL_law_157 : decode cL_law 157 = .ok (.iconst 1, 1) := by decide +kernel
theorem dL_law_158 : decode cL_law 158 = .ok (.iadd, 1) := by decide +kernel
theorem dL_law_159 : decode cL_law 159 = .ok (.iaload, 1) := by decide +kernel
theorem dL_law_160 : decode cL_law 160 = .ok (.aload_n 0, 1) := by decide +kernel
theorem dL_law_161 : decode cL_law 161 = .ok (.iload_n 3, 1) := by decide +kernel
theorem dL_law_162 : decode cL_law 162 = .ok (.iconst 2, 1) := by decide +kernel
theorem dL_law_163 : decode cL_law 163 = .ok (.iadd, 1) := by decide +kernel
theorem dL_law_164 : decode cL_law 164 = .ok (.iaload, 1) := by decide +kernel
theorem dL_law_165 : decode cL_law 165 = .ok (.invokevirtual 17, 3) := by decide +kernel
theorem dL_law_168 : decode cL_law 168 = .ok (.if_icmp .eq 581, 3) := by decide +kernel
theorem dL_law_171 : decode cL_law 171 = .ok (.iconst 0, 1) := by decide +kernel
theorem dL_law_172 : decode cL_law 172 = .ok (.ireturn, 1) := by decide +kernel
theorem dL_law_173 : decode cL_law 173 = .ok (.aload_n 1, 1) := by decide +kernel
theorem dL_law_174 : decode cL_law 174 = .ok (.invokevirtual 18, 3) := by decide +kernel
theorem dL_law_177 : decode cL_law 177 = .ok (.aload_n 2, 1) := by decide +kernel
theorem dL_law_178 : decode cL_law 178 = .ok (.invokevirtual 22, 3) := by decide +kernel
theorem dL_law_181 : decode cL_law 181 = .ok (.if_icmp .eq 568, 3) := by decide +kernel
theorem dL_law_184 : decode cL_law 184 = .ok (.iconst 0, 1) := by decide +kernel
theorem dL_law_185 : decode cL_law 185 = .ok (.ireturn, 1) := by decide +kernel
theorem dL_law_186 : decode cL_law 186 = .ok (.aload_n 1, 1) := by decide +kernel
theorem dL_law_187 : decode cL_law 187 = .ok (.aload_n 0, 1) := by decide +kernel
theorem dL_law_188 : decode cL_law 188 = .ok (.iload_n 3, 1) := by decide +kernel
theorem dL_law_189 : decode cL_law 189 = .ok (.iconst 1, 1) := by decide +kernel
theorem dL_law_190 : decode cL_law 190 = .ok (.iadd, 1) := by decide +kernel
theorem dL_law_191 : decode cL_law 191 = .ok (.iaload, 1) := by decide +kernel
theorem dL_law_192 : decode cL_law 192 = .ok (.invokevirtual 23, 3) := by decide +kernel
theorem dL_law_195 : decode cL_law 195 = .ok (.aload_n 2, 1) := by decide +kernel
theorem dL_law_196 : decode cL_law 196 = .ok (.aload_n 0, 1) := by decide +kernel
theorem dL_law_197 : decode cL_law 197 = .ok (.iload_n 3, 1) := by decide +kernel
theorem dL_law_198 : decode cL_law 198 = .ok (.iconst 1, 1) := by decide +kernel
theorem dL_law_199 : decode cL_law 199 = .ok (.iadd, 1) := by decide +kernel
theorem dL_law_200 : decode cL_law 200 = .ok (.iaload, 1) := by decide +kernel
theorem dL_law_201 : decode cL_law 201 = .ok (.invokevirtual 27, 3) := by decide +kernel
theorem dL_law_204 : decode cL_law 204 = .ok (.if_icmp .eq 545, 3) := by decide +kernel
theorem dL_law_207 : decode cL_law 207 = .ok (.iconst 0, 1) := by decide +kernel
theorem dL_law_208 : decode cL_law 208 = .ok (.ireturn, 1) := by decide +kernel
theorem dL_law_209 : decode cL_law 209 = .ok (.aload_n 1, 1) := by decide +kernel
theorem dL_law_210 : decode cL_law 210 = .ok (.aload_n 0, 1) := by decide +kernel
theorem dL_law_211 : decode cL_law 211 = .ok (.iload_n 3, 1) := by decide +kernel
theorem dL_law_212 : decode cL_law 212 = .ok (.iconst 1, 1) := by decide +kernel
theorem dL_law_213 : decode cL_law 213 = .ok (.iadd, 1) := by decide +kernel
theorem dL_law_214 : decode cL_law 214 = .ok (.iaload, 1) := by decide +kernel
theorem dL_law_215 : decode cL_law 215 = .ok (.invokevirtual 28, 3) := by decide +kernel
theorem dL_law_218 : decode cL_law 218 = .ok (.aload_n 2, 1) := by decide +kernel
theorem dL_law_219 : decode cL_law 219 = .ok (.aload_n 0, 1) := by decide +kernel
theorem dL_law_220 : decode cL_law 220 = .ok (.iload_n 3, 1) := by decide +kernel
theorem dL_law_221 : decode cL_law 221 = .ok (.iconst 1, 1) := by decide +kernel
theorem dL_law_222 : decode cL_law 222 = .ok (.iadd, 1) := by decide +kernel
theorem dL_law_223 : decode cL_law 223 = .ok (.iaload, 1) := by decide +kernel
theorem dL_law_224 : decode cL_law 224 = .ok (.invokevirtual 31, 3) := by decide +kernel
theorem dL_law_227 : decode cL_law 227 = .ok (.if_icmp .eq 522, 3) := by decide +kernel
theorem dL_law_230 : decode cL_law 230 = .ok (.iconst 0, 1) := by decide +kernel
theorem dL_law_231 : decode cL_law 231 = .ok (.ireturn, 1) := by decide +kernel
theorem dL_law_232 : decode cL_law 232 = .ok (.aload_n 1, 1) := by decide +kernel
theorem dL_law_233 : decode cL_law 233 = .ok (.aload_n 0, 1) := by decide +kernel
theorem dL_law_234 : decode cL_law 234 = .ok (.iload_n 3, 1) := by decide +kernel
theorem dL_law_235 : decode cL_law 235 = .ok (.iconst 1, 1) := by decide +kernel
theorem dL_law_236 : decode cL_law 236 = .ok (.iadd, 1) := by decide +kernel
theorem dL_law_237 : decode cL_law 237 = .ok (.iaload, 1) := by decide +kernel
theorem dL_law_238 : decode cL_law 238 = .ok (.invokevirtual 32, 3) := by decide +kernel
theorem dL_law_241 : decode cL_law 241 = .ok (.aload_n 2, 1) := by decide +kernel
theorem dL_law_242 : decode cL_law 242 = .ok (.aload_n 0, 1) := by decide +kernel
theorem dL_law_243 : decode cL_law 243 = .ok (.iload_n 3, 1) := by decide +kernel
theorem dL_law_244 : decode cL_law 244 = .ok (.iconst 1, 1) := by decide +kernel
theorem dL_law_245 : decode cL_law 245 = .ok (.iadd, 1) := by decide +kernel
theorem dL_law_246 : decode cL_law 246 = .ok (.iaload, 1) := by decide +kernel
theorem dL_law_247 : decode cL_law 247 = .ok (.invokevirtual 35, 3) := by decide +kernel
theorem dL_law_250 : decode cL_law 250 = .ok (.if_icmp .eq 499, 3) := by decide +kernel
theorem dL_law_253 : decode cL_law 253 = .ok (.iconst 0, 1) := by decide +kernel
theorem dL_law_254 : decode cL_law 254 = .ok (.ireturn, 1) := by decide +kernel
theorem dL_law_255 : decode cL_law 255 = .ok (.aload_n 1, 1) := by decide +kernel
theorem dL_law_256 : decode cL_law 256 = .ok (.aload_n 0, 1) := by decide +kernel
theorem dL_law_257 : decode cL_law 257 = .ok (.iload_n 3, 1) := by decide +kernel
theorem dL_law_258 : decode cL_law 258 = .ok (.iconst 1, 1) := by decide +kernel
theorem dL_law_259 : decode cL_law 259 = .ok (.iadd, 1) := by decide +kernel
theorem dL_law_260 : decode cL_law 260 = .ok (.iaload, 1) := by decide +kernel
theorem dL_law_261 : decode cL_law 261 = .ok (.aload_n 0, 1) := by decide +kernel
theorem dL_law_262 : decode cL_law 262 = .ok (.iload_n 3, 1) := by decide +kernel
theorem dL_law_263 : decode cL_law 263 = .ok (.iconst 2, 1) := by decide +kernel
theorem dL_law_264 : decode cL_law 264 = .ok (.iadd, 1) := by decide +kernel
theorem dL_law_265 : decode cL_law 265 = .ok (.iaload, 1) := by decide +kernel
theorem dL_law_266 : decode cL_law 266 = .ok (.aload_n 0, 1) := by decide +kernel
theorem dL_law_267 : decode cL_law 267 = .ok (.iload_n 3, 1) := by decide +kernel
theorem dL_law_268 : decode cL_law 268 = .ok (.iconst 3, 1) := by decide +kernel
theorem dL_law_269 : decode cL_law 269 = .ok (.iadd, 1) := by decide +kernel
theorem dL_law_270 : decode cL_law 270 = .ok (.iaload, 1) := by decide +kernel
theorem dL_law_271 : decode cL_law 271 = .ok (.invokevirtual 36, 3) := by decide +kernel
theorem dL_law_274 : decode cL_law 274 = .ok (.aload_n 2, 1) := by decide +kernel
theorem dL_law_275 : decode cL_law 275 = .ok (.aload_n 0, 1) := by decide +kernel
theorem dL_law_276 : decode cL_law 276 = .ok (.iload_n 3, 1) := by decide +kernel
theorem dL_law_277 : decode cL_law 277 = .ok (.iconst 1, 1) := by decide +kernel
theorem dL_law_278 : decode cL_law 278 = .ok (.iadd, 1) := by decide +kernel
theorem dL_law_279 : decode cL_law 279 = .ok (.iaload, 1) := by decide +kernel
theorem dL_law_280 : decode cL_law 280 = .ok (.aload_n 0, 1) := by decide +kernel
theorem dL_law_281 : decode cL_law 281 = .ok (.iload_n 3, 1) := by decide +kernel
theorem dL_law_282 : decode cL_law 282 = .ok (.iconst 2, 1) := by decide +kernel
theorem dL_law_283 : decode cL_law 283 = .ok (.iadd, 1) := by decide +kernel
theorem dL_law_284 : decode cL_law 284 = .ok (.iaload, 1) := by decide +kernel
theorem dL_law_285 : decode cL_law 285 = .ok (.aload_n 0, 1) := by decide +kernel
theorem dL_law_286 : decode cL_law 286 = .ok (.iload_n 3, 1) := by decide +kernel
theorem dL_law_287 : decode cL_law 287 = .ok (.iconst 3, 1) := by decide +kernel
theorem dL_law_288 : decode cL_law 288 = .ok (.iadd, 1) := by decide +kernel
theorem dL_law_289 : decode cL_law 289 = .ok (.iaload, 1) := by decide +kernel
theorem dL_law_290 : decode cL_law 290 = .ok (.invokevirtual 40, 3) := by decide +kernel
theorem dL_law_293 : decode cL_law 293 = .ok (.if_icmp .eq 456, 3) := by decide +kernel
theorem dL_law_296 : decode cL_law 296 = .ok (.iconst 0, 1) := by decide +kernel
theorem dL_law_297 : decode cL_law 297 = .ok (.ireturn, 1) := by decide +kernel
theorem dL_law_298 : decode cL_law 298 = .ok (.aload_n 1, 1) := by decide +kernel
theorem dL_law_299 : decode cL_law 299 = .ok (.aload_n 0, 1) := by decide +kernel
theorem dL_law_300 : decode cL_law 300 = .ok (.iload_n 3, 1) := by decide +kernel
theorem dL_law_301 : decode cL_law 301 = .ok (.iconst 1, 1) := by decide +kernel
theorem dL_law_302 : decode cL_law 302 = .ok (.iadd, 1) := by decide +kernel
theorem dL_law_303 : decode cL_law 303 = .ok (.iaload, 1) := by decide +kernel
theorem dL_law_304 : decode cL_law 304 = .ok (.invokevirtual 41, 3) := by decide +kernel
theorem dL_law_307 : decode cL_law 307 = .ok (.aload_n 2, 1) := by decide +kernel
theorem dL_law_308 : decode cL_law 308 = .ok (.aload_n 0, 1) := by decide +kernel
theorem dL_law_309 : decode cL_law 309 = .ok (.iload_n 3, 1) := by decide +kernel
theorem dL_law_310 : decode cL_law 310 = .ok (.iconst 1, 1) := by decide +kernel
theorem dL_law_311 : decode cL_law 311 = .ok (.iadd, 1) := by decide +kernel
theorem dL_law_312 : decode cL_law 312 = .ok (.iaload, 1) := by decide +kernel
theorem dL_law_313 : decode cL_law 313 = .ok (.invokevirtual 44, 3) := by decide +kernel
theorem dL_law_316 : decode cL_law 316 = .ok (.if_icmp .eq 433, 3) := by decide +kernel
theorem dL_law_319 : decode cL_law 319 = .ok (.iconst 0, 1) := by decide +kernel
theorem dL_law_320 : decode cL_law 320 = .ok (.ireturn, 1) := by decide +kernel
theorem dL_law_321 : decode cL_law 321 = .ok (.aload_n 1, 1) := by decide +kernel
theorem dL_law_322 : decode cL_law 322 = .ok (.aload_n 0, 1) := by decide +kernel
theorem dL_law_323 : decode cL_law 323 = .ok (.iload_n 3, 1) := by decide +kernel
theorem dL_law_324 : decode cL_law 324 = .ok (.iconst 1, 1) := by decide +kernel
theorem dL_law_325 : decode cL_law 325 = .ok (.iadd, 1) := by decide +kernel
theorem dL_law_326 : decode cL_law 326 = .ok (.iaload, 1) := by decide +kernel
theorem dL_law_327 : decode cL_law 327 = .ok (.aload_n 0, 1) := by decide +kernel
theorem dL_law_328 : decode cL_law 328 = .ok (.iload_n 3, 1) := by decide +kernel
theorem dL_law_329 : decode cL_law 329 = .ok (.iconst 2, 1) := by decide +kernel
theorem dL_law_330 : decode cL_law 330 = .ok (.iadd, 1) := by decide +kernel
theorem dL_law_331 : decode cL_law 331 = .ok (.iaload, 1) := by decide +kernel
theorem dL_law_332 : decode cL_law 332 = .ok (.invokevirtual 45, 3) := by decide +kernel
theorem dL_law_335 : decode cL_law 335 = .ok (.aload_n 2, 1) := by decide +kernel
theorem dL_law_336 : decode cL_law 336 = .ok (.aload_n 0, 1) := by decide +kernel
theorem dL_law_337 : decode cL_law 337 = .ok (.iload_n 3, 1) := by decide +kernel
theorem dL_law_338 : decode cL_law 338 = .ok (.iconst 1, 1) := by decide +kernel
theorem dL_law_339 : decode cL_law 339 = .ok (.iadd, 1) := by decide +kernel
theorem dL_law_340 : decode cL_law 340 = .ok (.iaload, 1) := by decide +kernel
theorem dL_law_341 : decode cL_law 341 = .ok (.aload_n 0, 1) := by decide +kernel
theorem dL_law_342 : decode cL_law 342 = .ok (.iload_n 3, 1) := by decide +kernel
theorem dL_law_343 : decode cL_law 343 = .ok (.iconst 2, 1) := by decide +kernel
theorem dL_law_344 : decode cL_law 344 = .ok (.iadd, 1) := by decide +kernel
theorem dL_law_345 : decode cL_law 345 = .ok (.iaload, 1) := by decide +kernel
theorem dL_law_346 : decode cL_law 346 = .ok (.invokevirtual 48, 3) := by decide +kernel
theorem dL_law_349 : decode cL_law 349 = .ok (.if_icmp .eq 400, 3) := by decide +kernel
theorem dL_law_352 : decode cL_law 352 = .ok (.iconst 0, 1) := by decide +kernel
theorem dL_law_353 : decode cL_law 353 = .ok (.ireturn, 1) := by decide +kernel
theorem dL_law_354 : decode cL_law 354 = .ok (.aload_n 1, 1) := by decide +kernel
theorem dL_law_355 : decode cL_law 355 = .ok (.aload_n 0, 1) := by decide +kernel
theorem dL_law_356 : decode cL_law 356 = .ok (.iload_n 3, 1) := by decide +kernel
theorem dL_law_357 : decode cL_law 357 = .ok (.iconst 1, 1) := by decide +kernel
theorem dL_law_358 : decode cL_law 358 = .ok (.iadd, 1) := by decide +kernel
theorem dL_law_359 : decode cL_law 359 = .ok (.iaload, 1) := by decide +kernel
theorem dL_law_360 : decode cL_law 360 = .ok (.invokevirtual 49, 3) := by decide +kernel
theorem dL_law_363 : decode cL_law 363 = .ok (.aload_n 2, 1) := by decide +kernel
theorem dL_law_364 : decode cL_law 364 = .ok (.aload_n 0, 1) := by decide +kernel
theorem dL_law_365 : decode cL_law 365 = .ok (.iload_n 3, 1) := by decide +kernel
theorem dL_law_366 : decode cL_law 366 = .ok (.iconst 1, 1) := by decide +kernel
theorem dL_law_367 : decode cL_law 367 = .ok (.iadd, 1) := by decide +kernel
theorem dL_law_368 : decode cL_law 368 = .ok (.iaload, 1) := by decide +kernel
theorem dL_law_369 : decode cL_law 369 = .ok (.invokevirtual 52, 3) := by decide +kernel
theorem dL_law_372 : decode cL_law 372 = .ok (.if_icmp .eq 377, 3) := by decide +kernel
theorem dL_law_375 : decode cL_law 375 = .ok (.iconst 0, 1) := by decide +kernel
theorem dL_law_376 : decode cL_law 376 = .ok (.ireturn, 1) := by decide +kernel
theorem dL_law_377 : decode cL_law 377 = .ok (.aload_n 1, 1) := by decide +kernel
theorem dL_law_378 : decode cL_law 378 = .ok (.aload_n 0, 1) := by decide +kernel
theorem dL_law_379 : decode cL_law 379 = .ok (.iload_n 3, 1) := by decide +kernel
theorem dL_law_380 : decode cL_law 380 = .ok (.iconst 1, 1) := by decide +kernel
theorem dL_law_381 : decode cL_law 381 = .ok (.iadd, 1) := by decide +kernel
theorem dL_law_382 : decode cL_law 382 = .ok (.iaload, 1) := by decide +kernel
theorem dL_law_383 : decode cL_law 383 = .ok (.aload_n 0, 1) := by decide +kernel
theorem dL_law_384 : decode cL_law 384 = .ok (.iload_n 3, 1) := by decide +kernel
theorem dL_law_385 : decode cL_law 385 = .ok (.iconst 2, 1) := by decide +kernel
theorem dL_law_386 : decode cL_law 386 = .ok (.iadd, 1) := by decide +kernel
theorem dL_law_387 : decode cL_law 387 = .ok (.iaload, 1) := by decide +kernel
theorem dL_law_388 : decode cL_law 388 = .ok (.invokevirtual 53, 3) := by decide +kernel
theorem dL_law_391 : decode cL_law 391 = .ok (.aload_n 2, 1) := by decide +kernel
theorem dL_law_392 : decode cL_law 392 = .ok (.aload_n 0, 1) := by decide +kernel
theorem dL_law_393 : decode cL_law 393 = .ok (.iload_n 3, 1) := by decide +kernel
theorem dL_law_394 : decode cL_law 394 = .ok (.iconst 1, 1) := by decide +kernel
theorem dL_law_395 : decode cL_law 395 = .ok (.iadd, 1) := by decide +kernel
theorem dL_law_396 : decode cL_law 396 = .ok (.iaload, 1) := by decide +kernel
theorem dL_law_397 : decode cL_law 397 = .ok (.aload_n 0, 1) := by decide +kernel
theorem dL_law_398 : decode cL_law 398 = .ok (.iload_n 3, 1) := by decide +kernel
theorem dL_law_399 : decode cL_law 399 = .ok (.iconst 2, 1) := by decide +kernel
theorem dL_law_400 : decode cL_law 400 = .ok (.iadd, 1) := by decide +kernel
theorem dL_law_401 : decode cL_law 401 = .ok (.iaload, 1) := by decide +kernel
theorem dL_law_402 : decode cL_law 402 = .ok (.invokevirtual 56, 3) := by decide +kernel
theorem dL_law_405 : decode cL_law 405 = .ok (.if_icmp .eq 344, 3) := by decide +kernel
theorem dL_law_408 : decode cL_law 408 = .ok (.iconst 0, 1) := by decide +kernel
theorem dL_law_409 : decode cL_law 409 = .ok (.ireturn, 1) := by decide +kernel
theorem dL_law_410 : decode cL_law 410 = .ok (.aload_n 1, 1) := by decide +kernel
theorem dL_law_411 : decode cL_law 411 = .ok (.aload_n 0, 1) := by decide +kernel
theorem dL_law_412 : decode cL_law 412 = .ok (.iload_n 3, 1) := by decide +kernel
theorem dL_law_413 : decode cL_law 413 = .ok (.iconst 1, 1) := by decide +kernel
theorem dL_law_414 : decode cL_law 414 = .ok (.iadd, 1) := by decide +kernel
theorem dL_law_415 : decode cL_law 415 = .ok (.iaload, 1) := by decide +kernel
theorem dL_law_416 : decode cL_law 416 = .ok (.aload_n 0, 1) := by decide +kernel
theorem dL_law_417 : decode cL_law 417 = .ok (.iload_n 3, 1) := by decide +kernel
theorem dL_law_418 : decode cL_law 418 = .ok (.iconst 2, 1) := by decide +kernel
theorem dL_law_419 : decode cL_law 419 = .ok (.iadd, 1) := by decide +kernel
theorem dL_law_420 : decode cL_law 420 = .ok (.iaload, 1) := by decide +kernel
theorem dL_law_421 : decode cL_law 421 = .ok (.invokevirtual 57, 3) := by decide +kernel
theorem dL_law_424 : decode cL_law 424 = .ok (.aload_n 2, 1) := by decide +kernel
theorem dL_law_425 : decode cL_law 425 = .ok (.aload_n 0, 1) := by decide +kernel
theorem dL_law_426 : decode cL_law 426 = .ok (.iload_n 3, 1) := by decide +kernel
theorem dL_law_427 : decode cL_law 427 = .ok (.iconst 1, 1) := by decide +kernel
theorem dL_law_428 : decode cL_law 428 = .ok (.iadd, 1) := by decide +kernel
theorem dL_law_429 : decode cL_law 429 = .ok (.iaload, 1) := by decide +kernel
theorem dL_law_430 : decode cL_law 430 = .ok (.aload_n 0, 1) := by decide +kernel
theorem dL_law_431 : decode cL_law 431 = .ok (.iload_n 3, 1) := by decide +kernel
theorem dL_law_432 : decode cL_law 432 = .ok (.iconst 2, 1) := by decide +kernel
theorem dL_law_433 : decode cL_law 433 = .ok (.iadd, 1) := by decide +kernel
theorem dL_law_434 : decode cL_law 434 = .ok (.iaload, 1) := by decide +kernel
theorem dL_law_435 : decode cL_law 435 = .ok (.invokevirtual 60, 3) := by decide +kernel
theorem dL_law_438 : decode cL_law 438 = .ok (.if_icmp .eq 311, 3) := by decide +kernel
theorem dL_law_441 : decode cL_law 441 = .ok (.iconst 0, 1) := by decide +kernel
theorem dL_law_442 : decode cL_law 442 = .ok (.ireturn, 1) := by decide +kernel
theorem dL_law_443 : decode cL_law 443 = .ok (.aload_n 1, 1) := by decide +kernel
theorem dL_law_444 : decode cL_law 444 = .ok (.aload_n 0, 1) := by decide +kernel
theorem dL_law_445 : decode cL_law 445 = .ok (.iload_n 3, 1) := by decide +kernel
theorem dL_law_446 : decode cL_law 446 = .ok (.iconst 1, 1) := by decide +kernel
theorem dL_law_447 : decode cL_law 447 = .ok (.iadd, 1) := by decide +kernel
theorem dL_law_448 : decode cL_law 448 = .ok (.iaload, 1) := by decide +kernel
theorem dL_law_449 : decode cL_law 449 = .ok (.invokevirtual 61, 3) := by decide +kernel
theorem dL_law_452 : decode cL_law 452 = .ok (.aload_n 2, 1) := by decide +kernel
theorem dL_law_453 : decode cL_law 453 = .ok (.aload_n 0, 1) := by decide +kernel
theorem dL_law_454 : decode cL_law 454 = .ok (.iload_n 3, 1) := by decide +kernel
theorem dL_law_455 : decode cL_law 455 = .ok (.iconst 1, 1) := by decide +kernel
theorem dL_law_456 : decode cL_law 456 = .ok (.iadd, 1) := by decide +kernel
theorem dL_law_457 : decode cL_law 457 = .ok (.iaload, 1) := by decide +kernel
theorem dL_law_458 : decode cL_law 458 = .ok (.invokevirtual 64, 3) := by decide +kernel
theorem dL_law_461 : decode cL_law 461 = .ok (.if_icmp .eq 288, 3) := by decide +kernel
theorem dL_law_464 : decode cL_law 464 = .ok (.iconst 0, 1) := by decide +kernel
theorem dL_law_465 : decode cL_law 465 = .ok (.ireturn, 1) := by decide +kernel
theorem dL_law_466 : decode cL_law 466 = .ok (.aload_n 1, 1) := by decide +kernel
theorem dL_law_467 : decode cL_law 467 = .ok (.aload_n 0, 1) := by decide +kernel
theorem dL_law_468 : decode cL_law 468 = .ok (.iload_n 3, 1) := by decide +kernel
theorem dL_law_469 : decode cL_law 469 = .ok (.iconst 1, 1) := by decide +kernel
theorem dL_law_470 : decode cL_law 470 = .ok (.iadd, 1) := by decide +kernel
theorem dL_law_471 : decode cL_law 471 = .ok (.iaload, 1) := by decide +kernel
theorem dL_law_472 : decode cL_law 472 = .ok (.aload_n 0, 1) := by decide +kernel
theorem dL_law_473 : decode cL_law 473 = .ok (.iload_n 3, 1) := by decide +kernel
theorem dL_law_474 : decode cL_law 474 = .ok (.iconst 2, 1) := by decide +kernel
theorem dL_law_475 : decode cL_law 475 = .ok (.iadd, 1) := by decide +kernel
theorem dL_law_476 : decode cL_law 476 = .ok (.iaload, 1) := by decide +kernel
theorem dL_law_477 : decode cL_law 477 = .ok (.aload_n 0, 1) := by decide +kernel
theorem dL_law_478 : decode cL_law 478 = .ok (.iload_n 3, 1) := by decide +kernel
theorem dL_law_479 : decode cL_law 479 = .ok (.iconst 3, 1) := by decide +kernel
theorem dL_law_480 : decode cL_law 480 = .ok (.iadd, 1) := by decide +kernel
theorem dL_law_481 : decode cL_law 481 = .ok (.iaload, 1) := by decide +kernel
theorem dL_law_482 : decode cL_law 482 = .ok (.invokevirtual 65, 3) := by decide +kernel
theorem dL_law_485 : decode cL_law 485 = .ok (.aload_n 2, 1) := by decide +kernel
theorem dL_law_486 : decode cL_law 486 = .ok (.aload_n 0, 1) := by decide +kernel
theorem dL_law_487 : decode cL_law 487 = .ok (.iload_n 3, 1) := by decide +kernel
theorem dL_law_488 : decode cL_law 488 = .ok (.iconst 1, 1) := by decide +kernel
theorem dL_law_489 : decode cL_law 489 = .ok (.iadd, 1) := by decide +kernel
theorem dL_law_490 : decode cL_law 490 = .ok (.iaload, 1) := by decide +kernel
theorem dL_law_491 : decode cL_law 491 = .ok (.aload_n 0, 1) := by decide +kernel
theorem dL_law_492 : decode cL_law 492 = .ok (.iload_n 3, 1) := by decide +kernel
theorem dL_law_493 : decode cL_law 493 = .ok (.iconst 2, 1) := by decide +kernel
theorem dL_law_494 : decode cL_law 494 = .ok (.iadd, 1) := by decide +kernel
theorem dL_law_495 : decode cL_law 495 = .ok (.iaload, 1) := by decide +kernel
theorem dL_law_496 : decode cL_law 496 = .ok (.aload_n 0, 1) := by decide +kernel
theorem dL_law_497 : decode cL_law 497 = .ok (.iload_n 3, 1) := by decide +kernel
theorem dL_law_498 : decode cL_law 498 = .ok (.iconst 3, 1) := by decide +kernel
theorem dL_law_499 : decode cL_law 499 = .ok (.iadd, 1) := by decide +kernel
theorem dL_law_500 : decode cL_law 500 = .ok (.iaload, 1) := by decide +kernel
theorem dL_law_501 : decode cL_law 501 = .ok (.invokevirtual 68, 3) := by decide +kernel
theorem dL_law_504 : decode cL_law 504 = .ok (.if_icmp .eq 245, 3) := by decide +kernel
theorem dL_law_507 : decode cL_law 507 = .ok (.iconst 0, 1) := by decide +kernel
theorem dL_law_508 : decode cL_law 508 = .ok (.ireturn, 1) := by decide +kernel
theorem dL_law_509 : decode cL_law 509 = .ok (.aload_n 1, 1) := by decide +kernel
theorem dL_law_510 : decode cL_law 510 = .ok (.aload_n 0, 1) := by decide +kernel
theorem dL_law_511 : decode cL_law 511 = .ok (.iload_n 3, 1) := by decide +kernel
theorem dL_law_512 : decode cL_law 512 = .ok (.iconst 1, 1) := by decide +kernel
theorem dL_law_513 : decode cL_law 513 = .ok (.iadd, 1) := by decide +kernel
theorem dL_law_514 : decode cL_law 514 = .ok (.iaload, 1) := by decide +kernel
theorem dL_law_515 : decode cL_law 515 = .ok (.invokevirtual 69, 3) := by decide +kernel
theorem dL_law_518 : decode cL_law 518 = .ok (.aload_n 2, 1) := by decide +kernel
theorem dL_law_519 : decode cL_law 519 = .ok (.aload_n 0, 1) := by decide +kernel
theorem dL_law_520 : decode cL_law 520 = .ok (.iload_n 3, 1) := by decide +kernel
theorem dL_law_521 : decode cL_law 521 = .ok (.iconst 1, 1) := by decide +kernel
theorem dL_law_522 : decode cL_law 522 = .ok (.iadd, 1) := by decide +kernel
theorem dL_law_523 : decode cL_law 523 = .ok (.iaload, 1) := by decide +kernel
theorem dL_law_524 : decode cL_law 524 = .ok (.invokevirtual 72, 3) := by decide +kernel
theorem dL_law_527 : decode cL_law 527 = .ok (.if_icmp .eq 222, 3) := by decide +kernel
theorem dL_law_530 : decode cL_law 530 = .ok (.iconst 0, 1) := by decide +kernel
theorem dL_law_531 : decode cL_law 531 = .ok (.ireturn, 1) := by decide +kernel
theorem dL_law_532 : decode cL_law 532 = .ok (.aload_n 1, 1) := by decide +kernel
theorem dL_law_533 : decode cL_law 533 = .ok (.invokevirtual 73, 3) := by decide +kernel
theorem dL_law_536 : decode cL_law 536 = .ok (.aload_n 2, 1) := by decide +kernel
theorem dL_law_537 : decode cL_law 537 = .ok (.invokevirtual 76, 3) := by decide +kernel
theorem dL_law_540 : decode cL_law 540 = .ok (.if_icmp .eq 209, 3) := by decide +kernel
theorem dL_law_543 : decode cL_law 543 = .ok (.iconst 0, 1) := by decide +kernel
theorem dL_law_544 : decode cL_law 544 = .ok (.ireturn, 1) := by decide +kernel
theorem dL_law_545 : decode cL_law 545 = .ok (.aload_n 1, 1) := by decide +kernel
theorem dL_law_546 : decode cL_law 546 = .ok (.aload_n 0, 1) := by decide +kernel
theorem dL_law_547 : decode cL_law 547 = .ok (.iload_n 3, 1) := by decide +kernel
theorem dL_law_548 : decode cL_law 548 = .ok (.iconst 1, 1) := by decide +kernel
theorem dL_law_549 : decode cL_law 549 = .ok (.iadd, 1) := by decide +kernel
theorem dL_law_550 : decode cL_law 550 = .ok (.iaload, 1) := by decide +kernel
theorem dL_law_551 : decode cL_law 551 = .ok (.invokevirtual 77, 3) := by decide +kernel
theorem dL_law_554 : decode cL_law 554 = .ok (.aload_n 2, 1) := by decide +kernel
theorem dL_law_555 : decode cL_law 555 = .ok (.aload_n 0, 1) := by decide +kernel
theorem dL_law_556 : decode cL_law 556 = .ok (.iload_n 3, 1) := by decide +kernel
theorem dL_law_557 : decode cL_law 557 = .ok (.iconst 1, 1) := by decide +kernel
theorem dL_law_558 : decode cL_law 558 = .ok (.iadd, 1) := by decide +kernel
theorem dL_law_559 : decode cL_law 559 = .ok (.iaload, 1) := by decide +kernel
theorem dL_law_560 : decode cL_law 560 = .ok (.invokevirtual 80, 3) := by decide +kernel
theorem dL_law_563 : decode cL_law 563 = .ok (.if_icmp .eq 186, 3) := by decide +kernel
theorem dL_law_566 : decode cL_law 566 = .ok (.iconst 0, 1) := by decide +kernel
theorem dL_law_567 : decode cL_law 567 = .ok (.ireturn, 1) := by decide +kernel
theorem dL_law_568 : decode cL_law 568 = .ok (.aload_n 1, 1) := by decide +kernel
theorem dL_law_569 : decode cL_law 569 = .ok (.aload_n 0, 1) := by decide +kernel
theorem dL_law_570 : decode cL_law 570 = .ok (.iload_n 3, 1) := by decide +kernel
theorem dL_law_571 : decode cL_law 571 = .ok (.iconst 1, 1) := by decide +kernel
theorem dL_law_572 : decode cL_law 572 = .ok (.iadd, 1) := by decide +kernel
theorem dL_law_573 : decode cL_law 573 = .ok (.iaload, 1) := by decide +kernel
theorem dL_law_574 : decode cL_law 574 = .ok (.aload_n 0, 1) := by decide +kernel
theorem dL_law_575 : decode cL_law 575 = .ok (.iload_n 3, 1) := by decide +kernel
theorem dL_law_576 : decode cL_law 576 = .ok (.iconst 2, 1) := by decide +kernel
theorem dL_law_577 : decode cL_law 577 = .ok (.iadd, 1) := by decide +kernel
theorem dL_law_578 : decode cL_law 578 = .ok (.iaload, 1) := by decide +kernel
theorem dL_law_579 : decode cL_law 579 = .ok (.invokevirtual 81, 3) := by decide +kernel
theorem dL_law_582 : decode cL_law 582 = .ok (.aload_n 2, 1) := by decide +kernel
theorem dL_law_583 : decode cL_law 583 = .ok (.aload_n 0, 1) := by decide +kernel
theorem dL_law_584 : decode cL_law 584 = .ok (.iload_n 3, 1) := by decide +kernel
theorem dL_law_585 : decode cL_law 585 = .ok (.iconst 1, 1) := by decide +kernel
theorem dL_law_586 : decode cL_law 586 = .ok (.iadd, 1) := by decide +kernel
theorem dL_law_587 : decode cL_law 587 = .ok (.iaload, 1) := by decide +kernel
theorem dL_law_588 : decode cL_law 588 = .ok (.aload_n 0, 1) := by decide +kernel
theorem dL_law_589 : decode cL_law 589 = .ok (.iload_n 3, 1) := by decide +kernel
theorem dL_law_590 : decode cL_law 590 = .ok (.iconst 2, 1) := by decide +kernel
theorem dL_law_591 : decode cL_law 591 = .ok (.iadd, 1) := by decide +kernel
theorem dL_law_592 : decode cL_law 592 = .ok (.iaload, 1) := by decide +kernel
theorem dL_law_593 : decode cL_law 593 = .ok (.invokevirtual 84, 3) := by decide +kernel
theorem dL_law_596 : decode cL_law 596 = .ok (.if_icmp .eq 153, 3) := by decide +kernel
theorem dL_law_599 : decode cL_law 599 = .ok (.iconst 0, 1) := by decide +kernel
theorem dL_law_600 : decode cL_law 600 = .ok (.ireturn, 1) := by decide +kernel
theorem dL_law_601 : decode cL_law 601 = .ok (.aload_n 1, 1) := by decide +kernel
theorem dL_law_602 : decode cL_law 602 = .ok (.aload_n 0, 1) := by decide +kernel
theorem dL_law_603 : decode cL_law 603 = .ok (.iload_n 3, 1) := by decide +kernel
theorem dL_law_604 : decode cL_law 604 = .ok (.iconst 1, 1) := by decide +kernel
theorem dL_law_605 : decode cL_law 605 = .ok (.iadd, 1) := by decide +kernel
theorem dL_law_606 : decode cL_law 606 = .ok (.iaload, 1) := by decide +kernel
theorem dL_law_607 : decode cL_law 607 = .ok (.aload_n 0, 1) := by decide +kernel
theorem dL_law_608 : decode cL_law 608 = .ok (.iload_n 3, 1) := by decide +kernel
theorem dL_law_609 : decode cL_law 609 = .ok (.iconst 2, 1) := by decide +kernel
theorem dL_law_610 : decode cL_law 610 = .ok (.iadd, 1) := by decide +kernel
theorem dL_law_611 : decode cL_law 611 = .ok (.iaload, 1) := by decide +kernel
theorem dL_law_612 : decode cL_law 612 = .ok (.invokevirtual 85, 3) := by decide +kernel
theorem dL_law_615 : decode cL_law 615 = .ok (.aload_n 2, 1) := by decide +kernel
theorem dL_law_616 : decode cL_law 616 = .ok (.aload_n 0, 1) := by decide +kernel
theorem dL_law_617 : decode cL_law 617 = .ok (.iload_n 3, 1) := by decide +kernel
theorem dL_law_618 : decode cL_law 618 = .ok (.iconst 1, 1) := by decide +kernel
theorem dL_law_619 : decode cL_law 619 = .ok (.iadd, 1) := by decide +kernel
theorem dL_law_620 : decode cL_law 620 = .ok (.iaload, 1) := by decide +kernel
theorem dL_law_621 : decode cL_law 621 = .ok (.aload_n 0, 1) := by decide +kernel
theorem dL_law_622 : decode cL_law 622 = .ok (.iload_n 3, 1) := by decide +kernel
theorem dL_law_623 : decode cL_law 623 = .ok (.iconst 2, 1) := by decide +kernel
theorem dL_law_624 : decode cL_law 624 = .ok (.iadd, 1) := by decide +kernel
theorem dL_law_625 : decode cL_law 625 = .ok (.iaload, 1) := by decide +kernel
theorem dL_law_626 : decode cL_law 626 = .ok (.invokevirtual 88, 3) := by decide +kernel
theorem dL_law_629 : decode cL_law 629 = .ok (.if_icmp .eq 120, 3) := by decide +kernel
theorem dL_law_632 : decode cL_law 632 = .ok (.iconst 0, 1) := by decide +kernel
theorem dL_law_633 : decode cL_law 633 = .ok (.ireturn, 1) := by decide +kernel
theorem dL_law_634 : decode cL_law 634 = .ok (.aload_n 1, 1) := by decide +kernel
theorem dL_law_635 : decode cL_law 635 = .ok (.aload_n 0, 1) := by decide +kernel
theorem dL_law_636 : decode cL_law 636 = .ok (.iload_n 3, 1) := by decide +kernel
theorem dL_law_637 : decode cL_law 637 = .ok (.iconst 1, 1) := by decide +kernel
theorem dL_law_638 : decode cL_law 638 = .ok (.iadd, 1) := by decide +kernel
theorem dL_law_639 : decode cL_law 639 = .ok (.iaload, 1) := by decide +kernel
theorem dL_law_640 : decode cL_law 640 = .ok (.aload_n 0, 1) := by decide +kernel
theorem dL_law_641 : decode cL_law 641 = .ok (.iload_n 3, 1) := by decide +kernel
theorem dL_law_642 : decode cL_law 642 = .ok (.iconst 2, 1) := by decide +kernel
theorem dL_law_643 : decode cL_law 643 = .ok (.iadd, 1) := by decide +kernel
theorem dL_law_644 : decode cL_law 644 = .ok (.iaload, 1) := by decide +kernel
theorem dL_law_645 : decode cL_law 645 = .ok (.invokevirtual 89, 3) := by decide +kernel
theorem dL_law_648 : decode cL_law 648 = .ok (.aload_n 2, 1) := by decide +kernel
theorem dL_law_649 : decode cL_law 649 = .ok (.aload_n 0, 1) := by decide +kernel
theorem dL_law_650 : decode cL_law 650 = .ok (.iload_n 3, 1) := by decide +kernel
theorem dL_law_651 : decode cL_law 651 = .ok (.iconst 1, 1) := by decide +kernel
theorem dL_law_652 : decode cL_law 652 = .ok (.iadd, 1) := by decide +kernel
theorem dL_law_653 : decode cL_law 653 = .ok (.iaload, 1) := by decide +kernel
theorem dL_law_654 : decode cL_law 654 = .ok (.aload_n 0, 1) := by decide +kernel
theorem dL_law_655 : decode cL_law 655 = .ok (.iload_n 3, 1) := by decide +kernel
theorem dL_law_656 : decode cL_law 656 = .ok (.iconst 2, 1) := by decide +kernel
theorem dL_law_657 : decode cL_law 657 = .ok (.iadd, 1) := by decide +kernel
theorem dL_law_658 : decode cL_law 658 = .ok (.iaload, 1) := by decide +kernel
theorem dL_law_659 : decode cL_law 659 = .ok (.invokevirtual 92, 3) := by decide +kernel
theorem dL_law_662 : decode cL_law 662 = .ok (.if_icmp .eq 87, 3) := by decide +kernel
theorem dL_law_665 : decode cL_law 665 = .ok (.iconst 0, 1) := by decide +kernel
theorem dL_law_666 : decode cL_law 666 = .ok (.ireturn, 1) := by decide +kernel
theorem dL_law_667 : decode cL_law 667 = .ok (.aload_n 1, 1) := by decide +kernel
theorem dL_law_668 : decode cL_law 668 = .ok (.aload_n 0, 1) := by decide +kernel
theorem dL_law_669 : decode cL_law 669 = .ok (.iload_n 3, 1) := by decide +kernel
theorem dL_law_670 : decode cL_law 670 = .ok (.iconst 1, 1) := by decide +kernel
theorem dL_law_671 : decode cL_law 671 = .ok (.iadd, 1) := by decide +kernel
theorem dL_law_672 : decode cL_law 672 = .ok (.iaload, 1) := by decide +kernel
theorem dL_law_673 : decode cL_law 673 = .ok (.invokevirtual 93, 3) := by decide +kernel
theorem dL_law_676 : decode cL_law 676 = .ok (.aload_n 2, 1) := by decide +kernel
theorem dL_law_677 : decode cL_law 677 = .ok (.aload_n 0, 1) := by decide +kernel
theorem dL_law_678 : decode cL_law 678 = .ok (.iload_n 3, 1) := by decide +kernel
theorem dL_law_679 : decode cL_law 679 = .ok (.iconst 1, 1) := by decide +kernel
theorem dL_law_680 : decode cL_law 680 = .ok (.iadd, 1) := by decide +kernel
theorem dL_law_681 : decode cL_law 681 = .ok (.iaload, 1) := by decide +kernel
theorem dL_law_682 : decode cL_law 682 = .ok (.invokevirtual 96, 3) := by decide +kernel
theorem dL_law_685 : decode cL_law 685 = .ok (.if_icmp .eq 64, 3) := by decide +kernel
theorem dL_law_688 : decode cL_law 688 = .ok (.iconst 0, 1) := by decide +kernel
theorem dL_law_689 : decode cL_law 689 = .ok (.ireturn, 1) := by decide +kernel
theorem dL_law_690 : decode cL_law 690 = .ok (.aload_n 1, 1) := by decide +kernel
theorem dL_law_691 : decode cL_law 691 = .ok (.invokevirtual 97, 3) := by decide +kernel
theorem dL_law_694 : decode cL_law 694 = .ok (.aload_n 2, 1) := by decide +kernel
theorem dL_law_695 : decode cL_law 695 = .ok (.invokevirtual 100, 3) := by decide +kernel
theorem dL_law_698 : decode cL_law 698 = .ok (.if_icmp .eq 51, 3) := by decide +kernel
theorem dL_law_701 : decode cL_law 701 = .ok (.iconst 0, 1) := by decide +kernel
theorem dL_law_702 : decode cL_law 702 = .ok (.ireturn, 1) := by decide +kernel
theorem dL_law_703 : decode cL_law 703 = .ok (.aload_n 1, 1) := by decide +kernel
theorem dL_law_704 : decode cL_law 704 = .ok (.aload_n 0, 1) := by decide +kernel
theorem dL_law_705 : decode cL_law 705 = .ok (.iload_n 3, 1) := by decide +kernel
theorem dL_law_706 : decode cL_law 706 = .ok (.iconst 1, 1) := by decide +kernel
theorem dL_law_707 : decode cL_law 707 = .ok (.iadd, 1) := by decide +kernel
theorem dL_law_708 : decode cL_law 708 = .ok (.iaload, 1) := by decide +kernel
theorem dL_law_709 : decode cL_law 709 = .ok (.invokevirtual 101, 3) := by decide +kernel
theorem dL_law_712 : decode cL_law 712 = .ok (.aload_n 2, 1) := by decide +kernel
theorem dL_law_713 : decode cL_law 713 = .ok (.aload_n 0, 1) := by decide +kernel
theorem dL_law_714 : decode cL_law 714 = .ok (.iload_n 3, 1) := by decide +kernel
theorem dL_law_715 : decode cL_law 715 = .ok (.iconst 1, 1) := by decide +kernel
theorem dL_law_716 : decode cL_law 716 = .ok (.iadd, 1) := by decide +kernel
theorem dL_law_717 : decode cL_law 717 = .ok (.iaload, 1) := by decide +kernel
theorem dL_law_718 : decode cL_law 718 = .ok (.invokevirtual 104, 3) := by decide +kernel
theorem dL_law_721 : decode cL_law 721 = .ok (.if_icmp .eq 28, 3) := by decide +kernel
theorem dL_law_724 : decode cL_law 724 = .ok (.iconst 0, 1) := by decide +kernel
theorem dL_law_725 : decode cL_law 725 = .ok (.ireturn, 1) := by decide +kernel
theorem dL_law_726 : decode cL_law 726 = .ok (.aload_n 1, 1) := by decide +kernel
theorem dL_law_727 : decode cL_law 727 = .ok (.aload_n 0, 1) := by decide +kernel
theorem dL_law_728 : decode cL_law 728 = .ok (.iload_n 3, 1) := by decide +kernel
theorem dL_law_729 : decode cL_law 729 = .ok (.iconst 1, 1) := by decide +kernel
theorem dL_law_730 : decode cL_law 730 = .ok (.iadd, 1) := by decide +kernel
theorem dL_law_731 : decode cL_law 731 = .ok (.iaload, 1) := by decide +kernel
theorem dL_law_732 : decode cL_law 732 = .ok (.invokevirtual 105, 3) := by decide +kernel
theorem dL_law_735 : decode cL_law 735 = .ok (.aload_n 2, 1) := by decide +kernel
theorem dL_law_736 : decode cL_law 736 = .ok (.aload_n 0, 1) := by decide +kernel
theorem dL_law_737 : decode cL_law 737 = .ok (.iload_n 3, 1) := by decide +kernel
theorem dL_law_738 : decode cL_law 738 = .ok (.iconst 1, 1) := by decide +kernel
theorem dL_law_739 : decode cL_law 739 = .ok (.iadd, 1) := by decide +kernel
theorem dL_law_740 : decode cL_law 740 = .ok (.iaload, 1) := by decide +kernel
theorem dL_law_741 : decode cL_law 741 = .ok (.invokevirtual 108, 3) := by decide +kernel
theorem dL_law_744 : decode cL_law 744 = .ok (.if_icmp .eq 5, 3) := by decide +kernel
theorem dL_law_747 : decode cL_law 747 = .ok (.iconst 0, 1) := by decide +kernel
theorem dL_law_748 : decode cL_law 748 = .ok (.ireturn, 1) := by decide +kernel
theorem dL_law_749 : decode cL_law 749 = .ok (.iinc 3 4, 3) := by decide +kernel
theorem dL_law_752 : decode cL_law 752 = .ok (.goto (-734), 3) := by decide +kernel
theorem dL_law_755 : decode cL_law 755 = .ok (.iconst 1, 1) := by decide +kernel
theorem dL_law_756 : decode cL_law 756 = .ok (.ireturn, 1) := by decide +kernel
end
section
/-! what the tables hold, by program -/
theorem okm_X0_init : pm_okM tb_R tb_T mX0_init := ⟨tb_in 58 (by decide +kernel) rfl, by decide +kernel, rfl⟩
theorem okm_X0_copyFrom : pm_okM tb_R tb_T mX0_copyFrom := ⟨tb_in 259 (by decide +kernel) rfl, by decide +kernel, rfl⟩
theorem okm_X1_init : pm_okM tb_R tb_T mX1_init := ⟨tb_in 51 (by decide +kernel) rfl, by decide +kernel, rfl⟩
theorem okm_X1_copyFrom : pm_okM tb_R tb_T mX1_copyFrom := ⟨tb_in 255 (by decide +kernel) rfl, by decide +kernel, rfl⟩
theorem okm_X1_hasAsset : pm_okM tb_R tb_T mX1_hasAsset := ⟨tb_in 312 (by decide +kernel) rfl, by decide +kernel, rfl⟩
theorem okm_X1_hasHunter : pm_okM tb_R tb_T mX1_hasHunter := ⟨tb_in 308 (by decide +kernel) rfl, by decide +kernel, rfl⟩
theorem okm_X1_hasReport : pm_okM tb_R tb_T mX1_hasReport := ⟨tb_in 332 (by decide +kernel) rfl, by decide +kernel, rfl⟩
theorem okm_X1_openAsset : pm_okM tb_R tb_T mX1_openAsset := ⟨tb_in 274 (by decide +kernel) rfl, by decide +kernel, rfl⟩
theorem okm_X1_openHunter : pm_okM tb_R tb_T mX1_openHunter := ⟨tb_in 282 (by decide +kernel) rfl, by decide +kernel, rfl⟩
theorem okm_X1_openReport : pm_okM tb_R tb_T mX1_openReport := ⟨tb_in 316 (by decide +kernel) rfl, by decide +kernel, rfl⟩
theorem okm_X1_foldTarget : pm_okM tb_R tb_T mX1_foldTarget := ⟨tb_in 336 (by decide +kernel) rfl, by decide +kernel, rfl⟩
theorem okm_X1_releaseFolded : pm_okM tb_R tb_T mX1_releaseFolded := ⟨tb_in 364 (by decide +kernel) rfl, by decide +kernel, rfl⟩
theorem okm_X1_priceWith : pm_okM tb_R tb_T mX1_priceWith := ⟨tb_in 352 (by decide +kernel) rfl, by decide +kernel, rfl⟩
theorem okm_X1_priceOf : pm_okM tb_R tb_T mX1_priceOf := ⟨tb_in 348 (by decide +kernel) rfl, by decide +kernel, rfl⟩
theorem okm_X1_closeAppeal : pm_okM tb_R tb_T mX1_closeAppeal := ⟨tb_in 378 (by decide +kernel) rfl, by decide +kernel, rfl⟩
theorem okm_X1_payOrWait : pm_okM tb_R tb_T mX1_payOrWait := ⟨tb_in 386 (by decide +kernel) rfl, by decide +kernel, rfl⟩
theorem okm_X1_shareOut : pm_okM tb_R tb_T mX1_shareOut := ⟨tb_in 392 (by decide +kernel) rfl, by decide +kernel, rfl⟩
theorem okm_X1_beginQuarter : pm_okM tb_R tb_T mX1_beginQuarter := ⟨tb_in 427 (by decide +kernel) rfl, by decide +kernel, rfl⟩
theorem okm_X1_isReportedBy : pm_okM tb_R tb_T mX1_isReportedBy := ⟨tb_in 404 (by decide +kernel) rfl, by decide +kernel, rfl⟩
theorem okm_X1_takeRetest : pm_okM tb_R tb_T mX1_takeRetest := ⟨tb_in 408 (by decide +kernel) rfl, by decide +kernel, rfl⟩
theorem okm_X1_giveBonuses : pm_okM tb_R tb_T mX1_giveBonuses := ⟨tb_in 418 (by decide +kernel) rfl, by decide +kernel, rfl⟩
theorem okm_X1_standingOf : pm_okM tb_R tb_T mX1_standingOf := ⟨tb_in 473 (by decide +kernel) rfl, by decide +kernel, rfl⟩
theorem okm_X1_standingFor : pm_okM tb_R tb_T mX1_standingFor := ⟨tb_in 476 (by decide +kernel) rfl, by decide +kernel, rfl⟩
theorem okm_X1_reportsInState : pm_okM tb_R tb_T mX1_reportsInState := ⟨tb_in 440 (by decide +kernel) rfl, by decide +kernel, rfl⟩
theorem okm_X1_reportsFor : pm_okM tb_R tb_T mX1_reportsFor := ⟨tb_in 456 (by decide +kernel) rfl, by decide +kernel, rfl⟩
theorem okm_X1_reportsBy : pm_okM tb_R tb_T mX1_reportsBy := ⟨tb_in 469 (by decide +kernel) rfl, by decide +kernel, rfl⟩
theorem okm_X1_foldedReports : pm_okM tb_R tb_T mX1_foldedReports := ⟨tb_in 489 (by decide +kernel) rfl, by decide +kernel, rfl⟩
theorem okm_X1_openAppeals : pm_okM tb_R tb_T mX1_openAppeals := ⟨tb_in 448 (by decide +kernel) rfl, by decide +kernel, rfl⟩
theorem okm_X1_moneyInPools : pm_okM tb_R tb_T mX1_moneyInPools := ⟨tb_in 444 (by decide +kernel) rfl, by decide +kernel, rfl⟩
theorem okm_X1_payablePrices : pm_okM tb_R tb_T mX1_payablePrices := ⟨tb_in 460 (by decide +kernel) rfl, by decide +kernel, rfl⟩
theorem okm_X2_init : pm_okM tb_R tb_T mX2_init := ⟨tb_in 81 (by decide +kernel) rfl, by decide +kernel, rfl⟩
theorem okm_X2_clear : pm_okM tb_R tb_T mX2_clear := ⟨tb_in 286 (by decide +kernel) rfl, by decide +kernel, rfl⟩
theorem okm_X2_copyFrom : pm_okM tb_R tb_T mX2_copyFrom := ⟨tb_in 263 (by decide +kernel) rfl, by decide +kernel, rfl⟩
theorem okm_X3_init : pm_okM tb_R tb_T mX3_init := ⟨tb_in 109 (by decide +kernel) rfl, by decide +kernel, rfl⟩
theorem okm_X3_open : pm_okM tb_R tb_T mX3_open := ⟨tb_in 320 (by decide +kernel) rfl, by decide +kernel, rfl⟩
theorem okm_X3_makeNew : pm_okM tb_R tb_T mX3_makeNew := ⟨tb_in 324 (by decide +kernel) rfl, by decide +kernel, rfl⟩
theorem okm_X3_isPayable : pm_okM tb_R tb_T mX3_isPayable := ⟨tb_in 360 (by decide +kernel) rfl, by decide +kernel, rfl⟩
theorem okm_X3_hasSeverity : pm_okM tb_R tb_T mX3_hasSeverity := ⟨tb_in 484 (by decide +kernel) rfl, by decide +kernel, rfl⟩
theorem okm_X3_isRetestedBy : pm_okM tb_R tb_T mX3_isRetestedBy := ⟨tb_in 400 (by decide +kernel) rfl, by decide +kernel, rfl⟩
theorem okm_X3_tellsSameAs : pm_okM tb_R tb_T mX3_tellsSameAs := ⟨tb_in 340 (by decide +kernel) rfl, by decide +kernel, rfl⟩
theorem okm_X3_copyFrom : pm_okM tb_R tb_T mX3_copyFrom := ⟨tb_in 267 (by decide +kernel) rfl, by decide +kernel, rfl⟩
theorem okm_X4_init : pm_okM tb_R tb_T mX4_init := ⟨tb_in 43 (by decide +kernel) rfl, by decide +kernel, rfl⟩
theorem okm_X4_addAsset : pm_okM tb_R tb_T mX4_addAsset := ⟨tb_in 244 (by decide +kernel) rfl, by decide +kernel, rfl⟩
theorem okm_X4_addHunter : pm_okM tb_R tb_T mX4_addHunter := ⟨tb_in 278 (by decide +kernel) rfl, by decide +kernel, rfl⟩
theorem okm_X4_fill : pm_okM tb_R tb_T mX4_fill := ⟨tb_in 290 (by decide +kernel) rfl, by decide +kernel, rfl⟩
theorem okm_X4_setRate : pm_okM tb_R tb_T mX4_setRate := ⟨tb_in 296 (by decide +kernel) rfl, by decide +kernel, rfl⟩
theorem okm_X4_setBonus : pm_okM tb_R tb_T mX4_setBonus := ⟨tb_in 300 (by decide +kernel) rfl, by decide +kernel, rfl⟩
theorem okm_X4_report : pm_okM tb_R tb_T mX4_report := ⟨tb_in 304 (by decide +kernel) rfl, by decide +kernel, rfl⟩
theorem okm_X4_fold : pm_okM tb_R tb_T mX4_fold := ⟨tb_in 328 (by decide +kernel) rfl, by decide +kernel, rfl⟩
theorem okm_X4_grade : pm_okM tb_R tb_T mX4_grade := ⟨tb_in 344 (by decide +kernel) rfl, by decide +kernel, rfl⟩
theorem okm_X4_refuse : pm_okM tb_R tb_T mX4_refuse := ⟨tb_in 356 (by decide +kernel) rfl, by decide +kernel, rfl⟩
theorem okm_X4_appeal : pm_okM tb_R tb_T mX4_appeal := ⟨tb_in 369 (by decide +kernel) rfl, by decide +kernel, rfl⟩
theorem okm_X4_decide : pm_okM tb_R tb_T mX4_decide := ⟨tb_in 374 (by decide +kernel) rfl, by decide +kernel, rfl⟩
theorem okm_X4_pay : pm_okM tb_R tb_T mX4_pay := ⟨tb_in 382 (by decide +kernel) rfl, by decide +kernel, rfl⟩
theorem okm_X4_retest : pm_okM tb_R tb_T mX4_retest := ⟨tb_in 396 (by decide +kernel) rfl, by decide +kernel, rfl⟩
theorem okm_X4_pass : pm_okM tb_R tb_T mX4_pass := ⟨tb_in 423 (by decide +kernel) rfl, by decide +kernel, rfl⟩
theorem okm_X4_undo : pm_okM tb_R tb_T mX4_undo := ⟨tb_in 432 (by decide +kernel) rfl, by decide +kernel, rfl⟩
theorem okm_X4_count : pm_okM tb_R tb_T mX4_count := ⟨tb_in 436 (by decide +kernel) rfl, by decide +kernel, rfl⟩
theorem okm_X4_asset : pm_okM tb_R tb_T mX4_asset := ⟨tb_in 452 (by decide +kernel) rfl, by decide +kernel, rfl⟩
theorem okm_X4_hunter : pm_okM tb_R tb_T mX4_hunter := ⟨tb_in 465 (by decide +kernel) rfl, by decide +kernel, rfl⟩
theorem okm_X4_reportOf : pm_okM tb_R tb_T mX4_reportOf := ⟨tb_in 480 (by decide +kernel) rfl, by decide +kernel, rfl⟩
theorem okm_X4_original : pm_okM tb_R tb_T mX4_original := ⟨tb_in 494 (by decide +kernel) rfl, by decide +kernel, rfl⟩
theorem okm_X4_lack : pm_okM tb_R tb_T mX4_lack := ⟨tb_in 498 (by decide +kernel) rfl, by decide +kernel, rfl⟩
theorem okm_X4_best : pm_okM tb_R tb_T mX4_best := ⟨tb_in 505 (by decide +kernel) rfl, by decide +kernel, rfl⟩
theorem okm_X4_paidIn : pm_okM tb_R tb_T mX4_paidIn := ⟨tb_in 517 (by decide +kernel) rfl, by decide +kernel, rfl⟩
theorem okm_X4_isOutside : pm_okM tb_R tb_T mX4_isOutside := ⟨tb_in 247 (by decide +kernel) rfl, by decide +kernel, rfl⟩
theorem okm_X4_remember : pm_okM tb_R tb_T mX4_remember := ⟨tb_in 251 (by decide +kernel) rfl, by decide +kernel, rfl⟩
theorem okm_X4_huntersAheadOf : pm_okM tb_R tb_T mX4_huntersAheadOf := ⟨tb_in 509 (by decide +kernel) rfl, by decide +kernel, rfl⟩
theorem okm_X4_isAhead : pm_okM tb_R tb_T mX4_isAhead := ⟨tb_in 513 (by decide +kernel) rfl, by decide +kernel, rfl⟩
theorem okm_X5_init : pm_okM tb_R tb_T mX5_init := ⟨tb_in 522 (by decide +kernel) rfl, by decide +kernel, rfl⟩
theorem okm_X5_in : pm_okM tb_R tb_T mX5_in := ⟨tb_in 550 (by decide +kernel) rfl, by decide +kernel, rfl⟩
theorem okm_X5_has : pm_okM tb_R tb_T mX5_has := ⟨tb_in 683 (by decide +kernel) rfl, by decide +kernel, rfl⟩
theorem okm_X5_ones : pm_okM tb_R tb_T mX5_ones := ⟨tb_in 690 (by decide +kernel) rfl, by decide +kernel, rfl⟩
theorem okm_X5_lesser : pm_okM tb_R tb_T mX5_lesser := ⟨tb_in 664 (by decide +kernel) rfl, by decide +kernel, rfl⟩
theorem okm_X5_keeps : pm_okM tb_R tb_T mX5_keeps := ⟨tb_in 554 (by decide +kernel) rfl, by decide +kernel, rfl⟩
theorem okm_X5_undo : pm_okM tb_R tb_T mX5_undo := ⟨tb_in 543 (by decide +kernel) rfl, by decide +kernel, rfl⟩
theorem okm_X5_isAsset : pm_okM tb_R tb_T mX5_isAsset := ⟨tb_in 591 (by decide +kernel) rfl, by decide +kernel, rfl⟩
theorem okm_X5_isHunter : pm_okM tb_R tb_T mX5_isHunter := ⟨tb_in 587 (by decide +kernel) rfl, by decide +kernel, rfl⟩
theorem okm_X5_isReport : pm_okM tb_R tb_T mX5_isReport := ⟨tb_in 602 (by decide +kernel) rfl, by decide +kernel, rfl⟩
theorem okm_X5_atAsset : pm_okM tb_R tb_T mX5_atAsset := ⟨tb_in 557 (by decide +kernel) rfl, by decide +kernel, rfl⟩
theorem okm_X5_atHunter : pm_okM tb_R tb_T mX5_atHunter := ⟨tb_in 653 (by decide +kernel) rfl, by decide +kernel, rfl⟩
theorem okm_X5_at : pm_okM tb_R tb_T mX5_at := ⟨tb_in 594 (by decide +kernel) rfl, by decide +kernel, rfl⟩
theorem okm_X5_of : pm_okM tb_R tb_T mX5_of := ⟨tb_in 610 (by decide +kernel) rfl, by decide +kernel, rfl⟩
theorem okm_X5_addAsset : pm_okM tb_R tb_T mX5_addAsset := ⟨tb_in 547 (by decide +kernel) rfl, by decide +kernel, rfl⟩
theorem okm_X5_addHunter : pm_okM tb_R tb_T mX5_addHunter := ⟨tb_in 561 (by decide +kernel) rfl, by decide +kernel, rfl⟩
theorem okm_X5_fill : pm_okM tb_R tb_T mX5_fill := ⟨tb_in 565 (by decide +kernel) rfl, by decide +kernel, rfl⟩
theorem okm_X5_sets : pm_okM tb_R tb_T mX5_sets := ⟨tb_in 575 (by decide +kernel) rfl, by decide +kernel, rfl⟩
theorem okm_X5_setRate : pm_okM tb_R tb_T mX5_setRate := ⟨tb_in 571 (by decide +kernel) rfl, by decide +kernel, rfl⟩
theorem okm_X5_setBonus : pm_okM tb_R tb_T mX5_setBonus := ⟨tb_in 579 (by decide +kernel) rfl, by decide +kernel, rfl⟩
theorem okm_X5_report : pm_okM tb_R tb_T mX5_report := ⟨tb_in 583 (by decide +kernel) rfl, by decide +kernel, rfl⟩
theorem okm_X5_originalOf : pm_okM tb_R tb_T mX5_originalOf := ⟨tb_in 606 (by decide +kernel) rfl, by decide +kernel, rfl⟩
theorem okm_X5_original : pm_okM tb_R tb_T mX5_original := ⟨tb_in 598 (by decide +kernel) rfl, by decide +kernel, rfl⟩
theorem okm_X5_fold : pm_okM tb_R tb_T mX5_fold := ⟨tb_in 614 (by decide +kernel) rfl, by decide +kernel, rfl⟩
theorem okm_X5_unfolds : pm_okM tb_R tb_T mX5_unfolds := ⟨tb_in 638 (by decide +kernel) rfl, by decide +kernel, rfl⟩
theorem okm_X5_priceBy : pm_okM tb_R tb_T mX5_priceBy := ⟨tb_in 626 (by decide +kernel) rfl, by decide +kernel, rfl⟩
theorem okm_X5_price : pm_okM tb_R tb_T mX5_price := ⟨tb_in 622 (by decide +kernel) rfl, by decide +kernel, rfl⟩
theorem okm_X5_isDue : pm_okM tb_R tb_T mX5_isDue := ⟨tb_in 646 (by decide +kernel) rfl, by decide +kernel, rfl⟩
theorem okm_X5_isOpen : pm_okM tb_R tb_T mX5_isOpen := ⟨tb_in 634 (by decide +kernel) rfl, by decide +kernel, rfl⟩
theorem okm_X5_grade : pm_okM tb_R tb_T mX5_grade := ⟨tb_in 618 (by decide +kernel) rfl, by decide +kernel, rfl⟩
theorem okm_X5_refuse : pm_okM tb_R tb_T mX5_refuse := ⟨tb_in 630 (by decide +kernel) rfl, by decide +kernel, rfl⟩
theorem okm_X5_appeal : pm_okM tb_R tb_T mX5_appeal := ⟨tb_in 642 (by decide +kernel) rfl, by decide +kernel, rfl⟩
theorem okm_X5_decide : pm_okM tb_R tb_T mX5_decide := ⟨tb_in 650 (by decide +kernel) rfl, by decide +kernel, rfl⟩
theorem okm_X5_gives : pm_okM tb_R tb_T mX5_gives := ⟨tb_in 668 (by decide +kernel) rfl, by decide +kernel, rfl⟩
theorem okm_X5_pays : pm_okM tb_R tb_T mX5_pays := ⟨tb_in 661 (by decide +kernel) rfl, by decide +kernel, rfl⟩
theorem okm_X5_pay : pm_okM tb_R tb_T mX5_pay := ⟨tb_in 657 (by decide +kernel) rfl, by decide +kernel, rfl⟩
theorem okm_X5_begins : pm_okM tb_R tb_T mX5_begins := ⟨tb_in 676 (by decide +kernel) rfl, by decide +kernel, rfl⟩
theorem okm_X5_pass : pm_okM tb_R tb_T mX5_pass := ⟨tb_in 672 (by decide +kernel) rfl, by decide +kernel, rfl⟩
theorem okm_X5_hasReported : pm_okM tb_R tb_T mX5_hasReported := ⟨tb_in 687 (by decide +kernel) rfl, by decide +kernel, rfl⟩
theorem okm_X5_givesBonuses : pm_okM tb_R tb_T mX5_givesBonuses := ⟨tb_in 694 (by decide +kernel) rfl, by decide +kernel, rfl⟩
theorem okm_X5_isNewAgain : pm_okM tb_R tb_T mX5_isNewAgain := ⟨tb_in 698 (by decide +kernel) rfl, by decide +kernel, rfl⟩
theorem okm_X5_retest : pm_okM tb_R tb_T mX5_retest := ⟨tb_in 680 (by decide +kernel) rfl, by decide +kernel, rfl⟩
theorem okm_X5_standing : pm_okM tb_R tb_T mX5_standing := ⟨tb_in 738 (by decide +kernel) rfl, by decide +kernel, rfl⟩
theorem okm_X5_inState : pm_okM tb_R tb_T mX5_inState := ⟨tb_in 714 (by decide +kernel) rfl, by decide +kernel, rfl⟩
theorem okm_X5_pools : pm_okM tb_R tb_T mX5_pools := ⟨tb_in 706 (by decide +kernel) rfl, by decide +kernel, rfl⟩
theorem okm_X5_openOnes : pm_okM tb_R tb_T mX5_openOnes := ⟨tb_in 710 (by decide +kernel) rfl, by decide +kernel, rfl⟩
theorem okm_X5_count : pm_okM tb_R tb_T mX5_count := ⟨tb_in 702 (by decide +kernel) rfl, by decide +kernel, rfl⟩
theorem okm_X5_reportsFor : pm_okM tb_R tb_T mX5_reportsFor := ⟨tb_in 722 (by decide +kernel) rfl, by decide +kernel, rfl⟩
theorem okm_X5_pricesFor : pm_okM tb_R tb_T mX5_pricesFor := ⟨tb_in 726 (by decide +kernel) rfl, by decide +kernel, rfl⟩
theorem okm_X5_asset : pm_okM tb_R tb_T mX5_asset := ⟨tb_in 718 (by decide +kernel) rfl, by decide +kernel, rfl⟩
theorem okm_X5_reportsBy : pm_okM tb_R tb_T mX5_reportsBy := ⟨tb_in 734 (by decide +kernel) rfl, by decide +kernel, rfl⟩
theorem okm_X5_hunter : pm_okM tb_R tb_T mX5_hunter := ⟨tb_in 730 (by decide +kernel) rfl, by decide +kernel, rfl⟩
theorem okm_X5_foldedInto : pm_okM tb_R tb_T mX5_foldedInto := ⟨tb_in 746 (by decide +kernel) rfl, by decide +kernel, rfl⟩
theorem okm_X5_reportOf : pm_okM tb_R tb_T mX5_reportOf := ⟨tb_in 742 (by decide +kernel) rfl, by decide +kernel, rfl⟩
theorem okm_X5_lack : pm_okM tb_R tb_T mX5_lack := ⟨tb_in 750 (by decide +kernel) rfl, by decide +kernel, rfl⟩
theorem okm_X5_isAhead : pm_okM tb_R tb_T mX5_isAhead := ⟨tb_in 758 (by decide +kernel) rfl, by decide +kernel, rfl⟩
theorem okm_X5_best : pm_okM tb_R tb_T mX5_best := ⟨tb_in 754 (by decide +kernel) rfl, by decide +kernel, rfl⟩
theorem okm_X5_paidIn : pm_okM tb_R tb_T mX5_paidIn := ⟨tb_in 762 (by decide +kernel) rfl, by decide +kernel, rfl⟩
theorem okm_J6_bitCount_0f7a4 : pm_okM tb_R tb_T mJ6_bitCount_0f7a4 := ⟨tb_in 411 (by decide +kernel) rfl, by decide +kernel, rfl⟩
theorem okc_0 : pm_okC vwCl tb_R tb_T 8 9 (2, mX4_init, 0) := ⟨fun h => absurd h (by show ¬ 2 = 3; decide), fun _ => ⟨okm_X4_init, tb_in 41 (by decide +kernel) rfl, tb_in 31 (by decide +kernel) rfl, by decide +kernel, by decide +kernel, by decide +kernel⟩, fun h => absurd h (by show ¬ 2 = 0; decide), fun h => absurd h (by show ¬ 2 = 1; decide), fun _ => ⟨rfl, tb_in 42 (by decide +kernel) rfl, rfl⟩, fun h => absurd h (by show ¬ 2 = 4; decide), fun h => absurd h (by show ¬ 2 = 5; decide)⟩
theorem okc_1 : pm_okC vwCl tb_R tb_T 4 1 (3, mL_law, 0) := ⟨fun _ => ⟨tb_in 44 (by decide +kernel) rfl, tb_in 45 (by decide +kernel) rfl, tb_in 46 (by decide +kernel) rfl⟩, fun h => absurd h (by show ¬ 3 < 3; decide), fun h => absurd h (by show ¬ 3 = 0; decide), fun h => absurd h (by show ¬ 3 = 1; decide), fun h => absurd h (by show ¬ 3 = 2; decide), fun h => absurd h (by show ¬ 3 = 4; decide), fun h => absurd h (by show ¬ 3 = 5; decide)⟩
theorem okc_2 : pm_okC vwCl tb_R tb_T 4 9 (2, mX1_init, 0) := ⟨fun h => absurd h (by show ¬ 2 = 3; decide), fun _ => ⟨okm_X1_init, tb_in 49 (by decide +kernel) rfl, tb_in 32 (by decide +kernel) rfl, by decide +kernel, by decide +kernel, by decide +kernel⟩, fun h => absurd h (by show ¬ 2 = 0; decide), fun h => absurd h (by show ¬ 2 = 1; decide), fun _ => ⟨rfl, tb_in 50 (by decide +kernel) rfl, rfl⟩, fun h => absurd h (by show ¬ 2 = 4; decide), fun h => absurd h (by show ¬ 2 = 5; decide)⟩
theorem okc_3 : pm_okC vwCl tb_R tb_T 1 3 (3, mL_law, 0) := ⟨fun _ => ⟨tb_in 52 (by decide +kernel) rfl, tb_in 45 (by decide +kernel) rfl, tb_in 46 (by decide +kernel) rfl⟩, fun h => absurd h (by show ¬ 3 < 3; decide), fun h => absurd h (by show ¬ 3 = 0; decide), fun h => absurd h (by show ¬ 3 = 1; decide), fun h => absurd h (by show ¬ 3 = 2; decide), fun h => absurd h (by show ¬ 3 = 4; decide), fun h => absurd h (by show ¬ 3 = 5; decide)⟩
theorem okc_4 : pm_okC vwCl tb_R tb_T 1 17 (2, mX0_init, 0) := ⟨fun h => absurd h (by show ¬ 2 = 3; decide), fun _ => ⟨okm_X0_init, tb_in 56 (by decide +kernel) rfl, tb_in 33 (by decide +kernel) rfl, by decide +kernel, by decide +kernel, by decide +kernel⟩, fun h => absurd h (by show ¬ 2 = 0; decide), fun h => absurd h (by show ¬ 2 = 1; decide), fun _ => ⟨rfl, tb_in 57 (by decide +kernel) rfl, rfl⟩, fun h => absurd h (by show ¬ 2 = 4; decide), fun h => absurd h (by show ¬ 2 = 5; decide)⟩
theorem okc_5 : pm_okC vwCl tb_R tb_T 0 1 (3, mL_law, 0) := ⟨fun _ => ⟨tb_in 59 (by decide +kernel) rfl, tb_in 45 (by decide +kernel) rfl, tb_in 46 (by decide +kernel) rfl⟩, fun h => absurd h (by show ¬ 3 < 3; decide), fun h => absurd h (by show ¬ 3 = 0; decide), fun h => absurd h (by show ¬ 3 = 1; decide), fun h => absurd h (by show ¬ 3 = 2; decide), fun h => absurd h (by show ¬ 3 = 4; decide), fun h => absurd h (by show ¬ 3 = 5; decide)⟩
theorem okc_6 : pm_okC vwCl tb_R tb_T 1 24 (2, mX2_init, 0) := ⟨fun h => absurd h (by show ¬ 2 = 3; decide), fun _ => ⟨okm_X2_init, tb_in 79 (by decide +kernel) rfl, tb_in 34 (by decide +kernel) rfl, by decide +kernel, by decide +kernel, by decide +kernel⟩, fun h => absurd h (by show ¬ 2 = 0; decide), fun h => absurd h (by show ¬ 2 = 1; decide), fun _ => ⟨rfl, tb_in 80 (by decide +kernel) rfl, rfl⟩, fun h => absurd h (by show ¬ 2 = 4; decide), fun h => absurd h (by show ¬ 2 = 5; decide)⟩
theorem okc_7 : pm_okC vwCl tb_R tb_T 2 1 (3, mL_law, 0) := ⟨fun _ => ⟨tb_in 82 (by decide +kernel) rfl, tb_in 45 (by decide +kernel) rfl, tb_in 46 (by decide +kernel) rfl⟩, fun h => absurd h (by show ¬ 3 < 3; decide), fun h => absurd h (by show ¬ 3 = 0; decide), fun h => absurd h (by show ¬ 3 = 1; decide), fun h => absurd h (by show ¬ 3 = 2; decide), fun h => absurd h (by show ¬ 3 = 4; decide), fun h => absurd h (by show ¬ 3 = 5; decide)⟩
theorem okc_8 : pm_okC vwCl tb_R tb_T 1 31 (2, mX3_init, 0) := ⟨fun h => absurd h (by show ¬ 2 = 3; decide), fun _ => ⟨okm_X3_init, tb_in 107 (by decide +kernel) rfl, tb_in 35 (by decide +kernel) rfl, by decide +kernel, by decide +kernel, by decide +kernel⟩, fun h => absurd h (by show ¬ 2 = 0; decide), fun h => absurd h (by show ¬ 2 = 1; decide), fun _ => ⟨rfl, tb_in 108 (by decide +kernel) rfl, rfl⟩, fun h => absurd h (by show ¬ 2 = 4; decide), fun h => absurd h (by show ¬ 2 = 5; decide)⟩
theorem okc_9 : pm_okC vwCl tb_R tb_T 3 3 (3, mL_law, 0) := ⟨fun _ => ⟨tb_in 110 (by decide +kernel) rfl, tb_in 45 (by decide +kernel) rfl, tb_in 46 (by decide +kernel) rfl⟩, fun h => absurd h (by show ¬ 3 < 3; decide), fun h => absurd h (by show ¬ 3 = 0; decide), fun h => absurd h (by show ¬ 3 = 1; decide), fun h => absurd h (by show ¬ 3 = 2; decide), fun h => absurd h (by show ¬ 3 = 4; decide), fun h => absurd h (by show ¬ 3 = 5; decide)⟩
theorem okc_10 : pm_okC vwCl tb_R tb_T 8 13 (0, mX4_addAsset, 2) := ⟨fun h => absurd h (by show ¬ 0 = 3; decide), fun _ => ⟨okm_X4_addAsset, tb_in 241 (by decide +kernel) rfl, tb_in 31 (by decide +kernel) rfl, by decide +kernel, by decide +kernel, by decide +kernel⟩, fun _ => ⟨tb_in 242 (by decide +kernel) rfl, tb_in 243 (by decide +kernel) rfl⟩, fun h => absurd h (by show ¬ 0 = 1; decide), fun h => absurd h (by show ¬ 0 = 2; decide), fun h => absurd h (by show ¬ 0 = 4; decide), fun h => absurd h (by show ¬ 0 = 5; decide)⟩
theorem okc_11 : pm_okC vwCl tb_R tb_T 4 34 (1, mX4_isOutside, 3) := ⟨fun h => absurd h (by show ¬ 1 = 3; decide), fun _ => ⟨okm_X4_isOutside, tb_in 245 (by decide +kernel) rfl, tb_in 31 (by decide +kernel) rfl, by decide +kernel, by decide +kernel, by decide +kernel⟩, fun h => absurd h (by show ¬ 1 = 0; decide), fun _ => tb_in 246 (by decide +kernel) rfl, fun h => absurd h (by show ¬ 1 = 2; decide), fun h => absurd h (by show ¬ 1 = 4; decide), fun h => absurd h (by show ¬ 1 = 5; decide)⟩
theorem okc_12 : pm_okC vwCl tb_R tb_T 4 41 (0, mX4_remember, 0) := ⟨fun h => absurd h (by show ¬ 0 = 3; decide), fun _ => ⟨okm_X4_remember, tb_in 248 (by decide +kernel) rfl, tb_in 31 (by decide +kernel) rfl, by decide +kernel, by decide +kernel, by decide +kernel⟩, fun _ => ⟨tb_in 250 (by decide +kernel) rfl, tb_in 0 (by decide +kernel) rfl⟩, fun h => absurd h (by show ¬ 0 = 1; decide), fun h => absurd h (by show ¬ 0 = 2; decide), fun h => absurd h (by show ¬ 0 = 4; decide), fun h => absurd h (by show ¬ 0 = 5; decide)⟩
theorem okc_13 : pm_okC vwCl tb_R tb_T 4 150 (0, mX1_copyFrom, 1) := ⟨fun h => absurd h (by show ¬ 0 = 3; decide), fun _ => ⟨okm_X1_copyFrom, tb_in 252 (by decide +kernel) rfl, tb_in 32 (by decide +kernel) rfl, by decide +kernel, by decide +kernel, by decide +kernel⟩, fun _ => ⟨tb_in 253 (by decide +kernel) rfl, tb_in 254 (by decide +kernel) rfl⟩, fun h => absurd h (by show ¬ 0 = 1; decide), fun h => absurd h (by show ¬ 0 = 2; decide), fun h => absurd h (by show ¬ 0 = 4; decide), fun h => absurd h (by show ¬ 0 = 5; decide)⟩
theorem okc_14 : pm_okC vwCl tb_R tb_T 1 42 (0, mX0_copyFrom, 1) := ⟨fun h => absurd h (by show ¬ 0 = 3; decide), fun _ => ⟨okm_X0_copyFrom, tb_in 256 (by decide +kernel) rfl, tb_in 33 (by decide +kernel) rfl, by decide +kernel, by decide +kernel, by decide +kernel⟩, fun _ => ⟨tb_in 257 (by decide +kernel) rfl, tb_in 258 (by decide +kernel) rfl⟩, fun h => absurd h (by show ¬ 0 = 1; decide), fun h => absurd h (by show ¬ 0 = 2; decide), fun h => absurd h (by show ¬ 0 = 4; decide), fun h => absurd h (by show ¬ 0 = 5; decide)⟩
theorem okc_15 : pm_okC vwCl tb_R tb_T 1 49 (0, mX2_copyFrom, 1) := ⟨fun h => absurd h (by show ¬ 0 = 3; decide), fun _ => ⟨okm_X2_copyFrom, tb_in 260 (by decide +kernel) rfl, tb_in 34 (by decide +kernel) rfl, by decide +kernel, by decide +kernel, by decide +kernel⟩, fun _ => ⟨tb_in 261 (by decide +kernel) rfl, tb_in 262 (by decide +kernel) rfl⟩, fun h => absurd h (by show ¬ 0 = 1; decide), fun h => absurd h (by show ¬ 0 = 2; decide), fun h => absurd h (by show ¬ 0 = 4; decide), fun h => absurd h (by show ¬ 0 = 5; decide)⟩
theorem okc_16 : pm_okC vwCl tb_R tb_T 1 55 (0, mX3_copyFrom, 1) := ⟨fun h => absurd h (by show ¬ 0 = 3; decide), fun _ => ⟨okm_X3_copyFrom, tb_in 264 (by decide +kernel) rfl, tb_in 35 (by decide +kernel) rfl, by decide +kernel, by decide +kernel, by decide +kernel⟩, fun _ => ⟨tb_in 265 (by decide +kernel) rfl, tb_in 266 (by decide +kernel) rfl⟩, fun h => absurd h (by show ¬ 0 = 1; decide), fun h => absurd h (by show ¬ 0 = 2; decide), fun h => absurd h (by show ¬ 0 = 4; decide), fun h => absurd h (by show ¬ 0 = 5; decide)⟩
theorem okc_17 : pm_okC vwCl tb_R tb_T 4 251 (5, mJ9_min_7cf53, 2) := ⟨fun h => absurd h (by show ¬ 5 = 3; decide), fun h => absurd h (by show ¬ 5 < 3; decide), fun h => absurd h (by show ¬ 5 = 0; decide), fun h => absurd h (by show ¬ 5 = 1; decide), fun h => absurd h (by show ¬ 5 = 2; decide), fun h => absurd h (by show ¬ 5 = 4; decide), fun _ => ⟨tb_in 268 (by decide +kernel) rfl, tb_in 269 (by decide +kernel) rfl, tb_in 37 (by decide +kernel) rfl, tb_in 270 (by decide +kernel) rfl⟩⟩
theorem okc_18 : pm_okC vwCl tb_R tb_T 4 44 (0, mX1_openAsset, 2) := ⟨fun h => absurd h (by show ¬ 0 = 3; decide), fun _ => ⟨okm_X1_openAsset, tb_in 271 (by decide +kernel) rfl, tb_in 32 (by decide +kernel) rfl, by decide +kernel, by decide +kernel, by decide +kernel⟩, fun _ => ⟨tb_in 272 (by decide +kernel) rfl, tb_in 273 (by decide +kernel) rfl⟩, fun h => absurd h (by show ¬ 0 = 1; decide), fun h => absurd h (by show ¬ 0 = 2; decide), fun h => absurd h (by show ¬ 0 = 4; decide), fun h => absurd h (by show ¬ 0 = 5; decide)⟩
theorem okc_19 : pm_okC vwCl tb_R tb_T 8 18 (0, mX4_addHunter, 0) := ⟨fun h => absurd h (by show ¬ 0 = 3; decide), fun _ => ⟨okm_X4_addHunter, tb_in 275 (by decide +kernel) rfl, tb_in 31 (by decide +kernel) rfl, by decide +kernel, by decide +kernel, by decide +kernel⟩, fun _ => ⟨tb_in 276 (by decide +kernel) rfl, tb_in 277 (by decide +kernel) rfl⟩, fun h => absurd h (by show ¬ 0 = 1; decide), fun h => absurd h (by show ¬ 0 = 2; decide), fun h => absurd h (by show ¬ 0 = 4; decide), fun h => absurd h (by show ¬ 0 = 5; decide)⟩
theorem okc_20 : pm_okC vwCl tb_R tb_T 4 51 (0, mX1_openHunter, 0) := ⟨fun h => absurd h (by show ¬ 0 = 3; decide), fun _ => ⟨okm_X1_openHunter, tb_in 279 (by decide +kernel) rfl, tb_in 32 (by decide +kernel) rfl, by decide +kernel, by decide +kernel, by decide +kernel⟩, fun _ => ⟨tb_in 280 (by decide +kernel) rfl, tb_in 281 (by decide +kernel) rfl⟩, fun h => absurd h (by show ¬ 0 = 1; decide), fun h => absurd h (by show ¬ 0 = 2; decide), fun h => absurd h (by show ¬ 0 = 4; decide), fun h => absurd h (by show ¬ 0 = 5; decide)⟩
theorem okc_21 : pm_okC vwCl tb_R tb_T 1 79 (0, mX2_clear, 0) := ⟨fun h => absurd h (by show ¬ 0 = 3; decide), fun _ => ⟨okm_X2_clear, tb_in 283 (by decide +kernel) rfl, tb_in 34 (by decide +kernel) rfl, by decide +kernel, by decide +kernel, by decide +kernel⟩, fun _ => ⟨tb_in 284 (by decide +kernel) rfl, tb_in 285 (by decide +kernel) rfl⟩, fun h => absurd h (by show ¬ 0 = 1; decide), fun h => absurd h (by show ¬ 0 = 2; decide), fun h => absurd h (by show ¬ 0 = 4; decide), fun h => absurd h (by show ¬ 0 = 5; decide)⟩
theorem okc_22 : pm_okC vwCl tb_R tb_T 8 23 (0, mX4_fill, 1) := ⟨fun h => absurd h (by show ¬ 0 = 3; decide), fun _ => ⟨okm_X4_fill, tb_in 287 (by decide +kernel) rfl, tb_in 31 (by decide +kernel) rfl, by decide +kernel, by decide +kernel, by decide +kernel⟩, fun _ => ⟨tb_in 288 (by decide +kernel) rfl, tb_in 289 (by decide +kernel) rfl⟩, fun h => absurd h (by show ¬ 0 = 1; decide), fun h => absurd h (by show ¬ 0 = 2; decide), fun h => absurd h (by show ¬ 0 = 4; decide), fun h => absurd h (by show ¬ 0 = 5; decide)⟩
theorem okc_23 : pm_okC vwCl tb_R tb_T 8 28 (0, mX4_setRate, 1) := ⟨fun h => absurd h (by show ¬ 0 = 3; decide), fun _ => ⟨okm_X4_setRate, tb_in 293 (by decide +kernel) rfl, tb_in 31 (by decide +kernel) rfl, by decide +kernel, by decide +kernel, by decide +kernel⟩, fun _ => ⟨tb_in 294 (by decide +kernel) rfl, tb_in 295 (by decide +kernel) rfl⟩, fun h => absurd h (by show ¬ 0 = 1; decide), fun h => absurd h (by show ¬ 0 = 2; decide), fun h => absurd h (by show ¬ 0 = 4; decide), fun h => absurd h (by show ¬ 0 = 5; decide)⟩
theorem okc_24 : pm_okC vwCl tb_R tb_T 8 32 (0, mX4_setBonus, 1) := ⟨fun h => absurd h (by show ¬ 0 = 3; decide), fun _ => ⟨okm_X4_setBonus, tb_in 297 (by decide +kernel) rfl, tb_in 31 (by decide +kernel) rfl, by decide +kernel, by decide +kernel, by decide +kernel⟩, fun _ => ⟨tb_in 298 (by decide +kernel) rfl, tb_in 299 (by decide +kernel) rfl⟩, fun h => absurd h (by show ¬ 0 = 1; decide), fun h => absurd h (by show ¬ 0 = 2; decide), fun h => absurd h (by show ¬ 0 = 4; decide), fun h => absurd h (by show ¬ 0 = 5; decide)⟩
theorem okc_25 : pm_okC vwCl tb_R tb_T 8 36 (0, mX4_report, 3) := ⟨fun h => absurd h (by show ¬ 0 = 3; decide), fun _ => ⟨okm_X4_report, tb_in 301 (by decide +kernel) rfl, tb_in 31 (by decide +kernel) rfl, by decide +kernel, by decide +kernel, by decide +kernel⟩, fun _ => ⟨tb_in 302 (by decide +kernel) rfl, tb_in 303 (by decide +kernel) rfl⟩, fun h => absurd h (by show ¬ 0 = 1; decide), fun h => absurd h (by show ¬ 0 = 2; decide), fun h => absurd h (by show ¬ 0 = 4; decide), fun h => absurd h (by show ¬ 0 = 5; decide)⟩
theorem okc_26 : pm_okC vwCl tb_R tb_T 4 66 (0, mX1_hasHunter, 1) := ⟨fun h => absurd h (by show ¬ 0 = 3; decide), fun _ => ⟨okm_X1_hasHunter, tb_in 305 (by decide +kernel) rfl, tb_in 32 (by decide +kernel) rfl, by decide +kernel, by decide +kernel, by decide +kernel⟩, fun _ => ⟨tb_in 306 (by decide +kernel) rfl, tb_in 307 (by decide +kernel) rfl⟩, fun h => absurd h (by show ¬ 0 = 1; decide), fun h => absurd h (by show ¬ 0 = 2; decide), fun h => absurd h (by show ¬ 0 = 4; decide), fun h => absurd h (by show ¬ 0 = 5; decide)⟩
theorem okc_27 : pm_okC vwCl tb_R tb_T 4 70 (0, mX1_hasAsset, 1) := ⟨fun h => absurd h (by show ¬ 0 = 3; decide), fun _ => ⟨okm_X1_hasAsset, tb_in 309 (by decide +kernel) rfl, tb_in 32 (by decide +kernel) rfl, by decide +kernel, by decide +kernel, by decide +kernel⟩, fun _ => ⟨tb_in 310 (by decide +kernel) rfl, tb_in 311 (by decide +kernel) rfl⟩, fun h => absurd h (by show ¬ 0 = 1; decide), fun h => absurd h (by show ¬ 0 = 2; decide), fun h => absurd h (by show ¬ 0 = 4; decide), fun h => absurd h (by show ¬ 0 = 5; decide)⟩
theorem okc_28 : pm_okC vwCl tb_R tb_T 4 76 (0, mX1_openReport, 3) := ⟨fun h => absurd h (by show ¬ 0 = 3; decide), fun _ => ⟨okm_X1_openReport, tb_in 313 (by decide +kernel) rfl, tb_in 32 (by decide +kernel) rfl, by decide +kernel, by decide +kernel, by decide +kernel⟩, fun _ => ⟨tb_in 314 (by decide +kernel) rfl, tb_in 315 (by decide +kernel) rfl⟩, fun h => absurd h (by show ¬ 0 = 1; decide), fun h => absurd h (by show ¬ 0 = 2; decide), fun h => absurd h (by show ¬ 0 = 4; decide), fun h => absurd h (by show ¬ 0 = 5; decide)⟩
theorem okc_29 : pm_okC vwCl tb_R tb_T 1 82 (0, mX3_open, 3) := ⟨fun h => absurd h (by show ¬ 0 = 3; decide), fun _ => ⟨okm_X3_open, tb_in 317 (by decide +kernel) rfl, tb_in 35 (by decide +kernel) rfl, by decide +kernel, by decide +kernel, by decide +kernel⟩, fun _ => ⟨tb_in 318 (by decide +kernel) rfl, tb_in 319 (by decide +kernel) rfl⟩, fun h => absurd h (by show ¬ 0 = 1; decide), fun h => absurd h (by show ¬ 0 = 2; decide), fun h => absurd h (by show ¬ 0 = 4; decide), fun h => absurd h (by show ¬ 0 = 5; decide)⟩
theorem okc_30 : pm_okC vwCl tb_R tb_T 3 27 (0, mX3_makeNew, 0) := ⟨fun h => absurd h (by show ¬ 0 = 3; decide), fun _ => ⟨okm_X3_makeNew, tb_in 321 (by decide +kernel) rfl, tb_in 35 (by decide +kernel) rfl, by decide +kernel, by decide +kernel, by decide +kernel⟩, fun _ => ⟨tb_in 322 (by decide +kernel) rfl, tb_in 323 (by decide +kernel) rfl⟩, fun h => absurd h (by show ¬ 0 = 1; decide), fun h => absurd h (by show ¬ 0 = 2; decide), fun h => absurd h (by show ¬ 0 = 4; decide), fun h => absurd h (by show ¬ 0 = 5; decide)⟩
theorem okc_31 : pm_okC vwCl tb_R tb_T 8 41 (0, mX4_fold, 1) := ⟨fun h => absurd h (by show ¬ 0 = 3; decide), fun _ => ⟨okm_X4_fold, tb_in 325 (by decide +kernel) rfl, tb_in 31 (by decide +kernel) rfl, by decide +kernel, by decide +kernel, by decide +kernel⟩, fun _ => ⟨tb_in 326 (by decide +kernel) rfl, tb_in 327 (by decide +kernel) rfl⟩, fun h => absurd h (by show ¬ 0 = 1; decide), fun h => absurd h (by show ¬ 0 = 2; decide), fun h => absurd h (by show ¬ 0 = 4; decide), fun h => absurd h (by show ¬ 0 = 5; decide)⟩
theorem okc_32 : pm_okC vwCl tb_R tb_T 4 80 (0, mX1_hasReport, 1) := ⟨fun h => absurd h (by show ¬ 0 = 3; decide), fun _ => ⟨okm_X1_hasReport, tb_in 329 (by decide +kernel) rfl, tb_in 32 (by decide +kernel) rfl, by decide +kernel, by decide +kernel, by decide +kernel⟩, fun _ => ⟨tb_in 330 (by decide +kernel) rfl, tb_in 331 (by decide +kernel) rfl⟩, fun h => absurd h (by show ¬ 0 = 1; decide), fun h => absurd h (by show ¬ 0 = 2; decide), fun h => absurd h (by show ¬ 0 = 4; decide), fun h => absurd h (by show ¬ 0 = 5; decide)⟩
theorem okc_33 : pm_okC vwCl tb_R tb_T 4 83 (0, mX1_foldTarget, 1) := ⟨fun h => absurd h (by show ¬ 0 = 3; decide), fun _ => ⟨okm_X1_foldTarget, tb_in 333 (by decide +kernel) rfl, tb_in 32 (by decide +kernel) rfl, by decide +kernel, by decide +kernel, by decide +kernel⟩, fun _ => ⟨tb_in 334 (by decide +kernel) rfl, tb_in 335 (by decide +kernel) rfl⟩, fun h => absurd h (by show ¬ 0 = 1; decide), fun h => absurd h (by show ¬ 0 = 2; decide), fun h => absurd h (by show ¬ 0 = 4; decide), fun h => absurd h (by show ¬ 0 = 5; decide)⟩
theorem okc_34 : pm_okC vwCl tb_R tb_T 1 89 (0, mX3_tellsSameAs, 1) := ⟨fun h => absurd h (by show ¬ 0 = 3; decide), fun _ => ⟨okm_X3_tellsSameAs, tb_in 337 (by decide +kernel) rfl, tb_in 35 (by decide +kernel) rfl, by decide +kernel, by decide +kernel, by decide +kernel⟩, fun _ => ⟨tb_in 338 (by decide +kernel) rfl, tb_in 339 (by decide +kernel) rfl⟩, fun h => absurd h (by show ¬ 0 = 1; decide), fun h => absurd h (by show ¬ 0 = 2; decide), fun h => absurd h (by show ¬ 0 = 4; decide), fun h => absurd h (by show ¬ 0 = 5; decide)⟩
theorem okc_35 : pm_okC vwCl tb_R tb_T 8 45 (0, mX4_grade, 2) := ⟨fun h => absurd h (by show ¬ 0 = 3; decide), fun _ => ⟨okm_X4_grade, tb_in 341 (by decide +kernel) rfl, tb_in 31 (by decide +kernel) rfl, by decide +kernel, by decide +kernel, by decide +kernel⟩, fun _ => ⟨tb_in 342 (by decide +kernel) rfl, tb_in 343 (by decide +kernel) rfl⟩, fun h => absurd h (by show ¬ 0 = 1; decide), fun h => absurd h (by show ¬ 0 = 2; decide), fun h => absurd h (by show ¬ 0 = 4; decide), fun h => absurd h (by show ¬ 0 = 5; decide)⟩
theorem okc_36 : pm_okC vwCl tb_R tb_T 4 102 (0, mX1_priceOf, 1) := ⟨fun h => absurd h (by show ¬ 0 = 3; decide), fun _ => ⟨okm_X1_priceOf, tb_in 345 (by decide +kernel) rfl, tb_in 32 (by decide +kernel) rfl, by decide +kernel, by decide +kernel, by decide +kernel⟩, fun _ => ⟨tb_in 346 (by decide +kernel) rfl, tb_in 347 (by decide +kernel) rfl⟩, fun h => absurd h (by show ¬ 0 = 1; decide), fun h => absurd h (by show ¬ 0 = 2; decide), fun h => absurd h (by show ¬ 0 = 4; decide), fun h => absurd h (by show ¬ 0 = 5; decide)⟩
theorem okc_37 : pm_okC vwCl tb_R tb_T 1 105 (0, mX1_priceWith, 2) := ⟨fun h => absurd h (by show ¬ 0 = 3; decide), fun _ => ⟨okm_X1_priceWith, tb_in 349 (by decide +kernel) rfl, tb_in 32 (by decide +kernel) rfl, by decide +kernel, by decide +kernel, by decide +kernel⟩, fun _ => ⟨tb_in 350 (by decide +kernel) rfl, tb_in 351 (by decide +kernel) rfl⟩, fun h => absurd h (by show ¬ 0 = 1; decide), fun h => absurd h (by show ¬ 0 = 2; decide), fun h => absurd h (by show ¬ 0 = 4; decide), fun h => absurd h (by show ¬ 0 = 5; decide)⟩
theorem okc_38 : pm_okC vwCl tb_R tb_T 8 49 (0, mX4_refuse, 1) := ⟨fun h => absurd h (by show ¬ 0 = 3; decide), fun _ => ⟨okm_X4_refuse, tb_in 353 (by decide +kernel) rfl, tb_in 31 (by decide +kernel) rfl, by decide +kernel, by decide +kernel, by decide +kernel⟩, fun _ => ⟨tb_in 354 (by decide +kernel) rfl, tb_in 355 (by decide +kernel) rfl⟩, fun h => absurd h (by show ¬ 0 = 1; decide), fun h => absurd h (by show ¬ 0 = 2; decide), fun h => absurd h (by show ¬ 0 = 4; decide), fun h => absurd h (by show ¬ 0 = 5; decide)⟩
theorem okc_39 : pm_okC vwCl tb_R tb_T 4 106 (0, mX3_isPayable, 0) := ⟨fun h => absurd h (by show ¬ 0 = 3; decide), fun _ => ⟨okm_X3_isPayable, tb_in 357 (by decide +kernel) rfl, tb_in 35 (by decide +kernel) rfl, by decide +kernel, by decide +kernel, by decide +kernel⟩, fun _ => ⟨tb_in 358 (by decide +kernel) rfl, tb_in 359 (by decide +kernel) rfl⟩, fun h => absurd h (by show ¬ 0 = 1; decide), fun h => absurd h (by show ¬ 0 = 2; decide), fun h => absurd h (by show ¬ 0 = 4; decide), fun h => absurd h (by show ¬ 0 = 5; decide)⟩
theorem okc_40 : pm_okC vwCl tb_R tb_T 4 113 (0, mX1_releaseFolded, 1) := ⟨fun h => absurd h (by show ¬ 0 = 3; decide), fun _ => ⟨okm_X1_releaseFolded, tb_in 361 (by decide +kernel) rfl, tb_in 32 (by decide +kernel) rfl, by decide +kernel, by decide +kernel, by decide +kernel⟩, fun _ => ⟨tb_in 362 (by decide +kernel) rfl, tb_in 363 (by decide +kernel) rfl⟩, fun h => absurd h (by show ¬ 0 = 1; decide), fun h => absurd h (by show ¬ 0 = 2; decide), fun h => absurd h (by show ¬ 0 = 4; decide), fun h => absurd h (by show ¬ 0 = 5; decide)⟩
theorem okc_41 : pm_okC vwCl tb_R tb_T 1 96 (0, mX3_makeNew, 0) := ⟨fun h => absurd h (by show ¬ 0 = 3; decide), fun _ => ⟨okm_X3_makeNew, tb_in 365 (by decide +kernel) rfl, tb_in 35 (by decide +kernel) rfl, by decide +kernel, by decide +kernel, by decide +kernel⟩, fun _ => ⟨tb_in 322 (by decide +kernel) rfl, tb_in 323 (by decide +kernel) rfl⟩, fun h => absurd h (by show ¬ 0 = 1; decide), fun h => absurd h (by show ¬ 0 = 2; decide), fun h => absurd h (by show ¬ 0 = 4; decide), fun h => absurd h (by show ¬ 0 = 5; decide)⟩
theorem okc_42 : pm_okC vwCl tb_R tb_T 8 53 (0, mX4_appeal, 2) := ⟨fun h => absurd h (by show ¬ 0 = 3; decide), fun _ => ⟨okm_X4_appeal, tb_in 366 (by decide +kernel) rfl, tb_in 31 (by decide +kernel) rfl, by decide +kernel, by decide +kernel, by decide +kernel⟩, fun _ => ⟨tb_in 367 (by decide +kernel) rfl, tb_in 368 (by decide +kernel) rfl⟩, fun h => absurd h (by show ¬ 0 = 1; decide), fun h => absurd h (by show ¬ 0 = 2; decide), fun h => absurd h (by show ¬ 0 = 4; decide), fun h => absurd h (by show ¬ 0 = 5; decide)⟩
theorem okc_43 : pm_okC vwCl tb_R tb_T 4 119 (0, mX1_priceWith, 2) := ⟨fun h => absurd h (by show ¬ 0 = 3; decide), fun _ => ⟨okm_X1_priceWith, tb_in 370 (by decide +kernel) rfl, tb_in 32 (by decide +kernel) rfl, by decide +kernel, by decide +kernel, by decide +kernel⟩, fun _ => ⟨tb_in 350 (by decide +kernel) rfl, tb_in 351 (by decide +kernel) rfl⟩, fun h => absurd h (by show ¬ 0 = 1; decide), fun h => absurd h (by show ¬ 0 = 2; decide), fun h => absurd h (by show ¬ 0 = 4; decide), fun h => absurd h (by show ¬ 0 = 5; decide)⟩
theorem okc_44 : pm_okC vwCl tb_R tb_T 8 57 (0, mX4_decide, 2) := ⟨fun h => absurd h (by show ¬ 0 = 3; decide), fun _ => ⟨okm_X4_decide, tb_in 371 (by decide +kernel) rfl, tb_in 31 (by decide +kernel) rfl, by decide +kernel, by decide +kernel, by decide +kernel⟩, fun _ => ⟨tb_in 372 (by decide +kernel) rfl, tb_in 373 (by decide +kernel) rfl⟩, fun h => absurd h (by show ¬ 0 = 1; decide), fun h => absurd h (by show ¬ 0 = 2; decide), fun h => absurd h (by show ¬ 0 = 4; decide), fun h => absurd h (by show ¬ 0 = 5; decide)⟩
theorem okc_45 : pm_okC vwCl tb_R tb_T 4 123 (0, mX1_closeAppeal, 2) := ⟨fun h => absurd h (by show ¬ 0 = 3; decide), fun _ => ⟨okm_X1_closeAppeal, tb_in 375 (by decide +kernel) rfl, tb_in 32 (by decide +kernel) rfl, by decide +kernel, by decide +kernel, by decide +kernel⟩, fun _ => ⟨tb_in 376 (by decide +kernel) rfl, tb_in 377 (by decide +kernel) rfl⟩, fun h => absurd h (by show ¬ 0 = 1; decide), fun h => absurd h (by show ¬ 0 = 2; decide), fun h => absurd h (by show ¬ 0 = 4; decide), fun h => absurd h (by show ¬ 0 = 5; decide)⟩
theorem okc_46 : pm_okC vwCl tb_R tb_T 8 61 (0, mX4_pay, 1) := ⟨fun h => absurd h (by show ¬ 0 = 3; decide), fun _ => ⟨okm_X4_pay, tb_in 379 (by decide +kernel) rfl, tb_in 31 (by decide +kernel) rfl, by decide +kernel, by decide +kernel, by decide +kernel⟩, fun _ => ⟨tb_in 380 (by decide +kernel) rfl, tb_in 381 (by decide +kernel) rfl⟩, fun h => absurd h (by show ¬ 0 = 1; decide), fun h => absurd h (by show ¬ 0 = 2; decide), fun h => absurd h (by show ¬ 0 = 4; decide), fun h => absurd h (by show ¬ 0 = 5; decide)⟩
theorem okc_47 : pm_okC vwCl tb_R tb_T 4 126 (0, mX1_payOrWait, 1) := ⟨fun h => absurd h (by show ¬ 0 = 3; decide), fun _ => ⟨okm_X1_payOrWait, tb_in 383 (by decide +kernel) rfl, tb_in 32 (by decide +kernel) rfl, by decide +kernel, by decide +kernel, by decide +kernel⟩, fun _ => ⟨tb_in 384 (by decide +kernel) rfl, tb_in 385 (by decide +kernel) rfl⟩, fun h => absurd h (by show ¬ 0 = 1; decide), fun h => absurd h (by show ¬ 0 = 2; decide), fun h => absurd h (by show ¬ 0 = 4; decide), fun h => absurd h (by show ¬ 0 = 5; decide)⟩
theorem okc_48 : pm_okC vwCl tb_R tb_T 1 124 (0, mX1_priceOf, 1) := ⟨fun h => absurd h (by show ¬ 0 = 3; decide), fun _ => ⟨okm_X1_priceOf, tb_in 387 (by decide +kernel) rfl, tb_in 32 (by decide +kernel) rfl, by decide +kernel, by decide +kernel, by decide +kernel⟩, fun _ => ⟨tb_in 346 (by decide +kernel) rfl, tb_in 347 (by decide +kernel) rfl⟩, fun h => absurd h (by show ¬ 0 = 1; decide), fun h => absurd h (by show ¬ 0 = 2; decide), fun h => absurd h (by show ¬ 0 = 4; decide), fun h => absurd h (by show ¬ 0 = 5; decide)⟩
theorem okc_49 : pm_okC vwCl tb_R tb_T 1 128 (5, mJ9_min_7cf53, 2) := ⟨fun h => absurd h (by show ¬ 5 = 3; decide), fun h => absurd h (by show ¬ 5 < 3; decide), fun h => absurd h (by show ¬ 5 = 0; decide), fun h => absurd h (by show ¬ 5 = 1; decide), fun h => absurd h (by show ¬ 5 = 2; decide), fun h => absurd h (by show ¬ 5 = 4; decide), fun _ => ⟨tb_in 388 (by decide +kernel) rfl, tb_in 269 (by decide +kernel) rfl, tb_in 37 (by decide +kernel) rfl, tb_in 270 (by decide +kernel) rfl⟩⟩
theorem okc_50 : pm_okC vwCl tb_R tb_T 1 137 (0, mX1_shareOut, 2) := ⟨fun h => absurd h (by show ¬ 0 = 3; decide), fun _ => ⟨okm_X1_shareOut, tb_in 389 (by decide +kernel) rfl, tb_in 32 (by decide +kernel) rfl, by decide +kernel, by decide +kernel, by decide +kernel⟩, fun _ => ⟨tb_in 390 (by decide +kernel) rfl, tb_in 391 (by decide +kernel) rfl⟩, fun h => absurd h (by show ¬ 0 = 1; decide), fun h => absurd h (by show ¬ 0 = 2; decide), fun h => absurd h (by show ¬ 0 = 4; decide), fun h => absurd h (by show ¬ 0 = 5; decide)⟩
theorem okc_51 : pm_okC vwCl tb_R tb_T 8 65 (0, mX4_retest, 3) := ⟨fun h => absurd h (by show ¬ 0 = 3; decide), fun _ => ⟨okm_X4_retest, tb_in 393 (by decide +kernel) rfl, tb_in 31 (by decide +kernel) rfl, by decide +kernel, by decide +kernel, by decide +kernel⟩, fun _ => ⟨tb_in 394 (by decide +kernel) rfl, tb_in 395 (by decide +kernel) rfl⟩, fun h => absurd h (by show ¬ 0 = 1; decide), fun h => absurd h (by show ¬ 0 = 2; decide), fun h => absurd h (by show ¬ 0 = 4; decide), fun h => absurd h (by show ¬ 0 = 5; decide)⟩
theorem okc_52 : pm_okC vwCl tb_R tb_T 4 133 (0, mX3_isRetestedBy, 1) := ⟨fun h => absurd h (by show ¬ 0 = 3; decide), fun _ => ⟨okm_X3_isRetestedBy, tb_in 397 (by decide +kernel) rfl, tb_in 35 (by decide +kernel) rfl, by decide +kernel, by decide +kernel, by decide +kernel⟩, fun _ => ⟨tb_in 398 (by decide +kernel) rfl, tb_in 399 (by decide +kernel) rfl⟩, fun h => absurd h (by show ¬ 0 = 1; decide), fun h => absurd h (by show ¬ 0 = 2; decide), fun h => absurd h (by show ¬ 0 = 4; decide), fun h => absurd h (by show ¬ 0 = 5; decide)⟩
theorem okc_53 : pm_okC vwCl tb_R tb_T 4 136 (0, mX1_isReportedBy, 2) := ⟨fun h => absurd h (by show ¬ 0 = 3; decide), fun _ => ⟨okm_X1_isReportedBy, tb_in 401 (by decide +kernel) rfl, tb_in 32 (by decide +kernel) rfl, by decide +kernel, by decide +kernel, by decide +kernel⟩, fun _ => ⟨tb_in 402 (by decide +kernel) rfl, tb_in 403 (by decide +kernel) rfl⟩, fun h => absurd h (by show ¬ 0 = 1; decide), fun h => absurd h (by show ¬ 0 = 2; decide), fun h => absurd h (by show ¬ 0 = 4; decide), fun h => absurd h (by show ¬ 0 = 5; decide)⟩
theorem okc_54 : pm_okC vwCl tb_R tb_T 4 140 (0, mX1_takeRetest, 3) := ⟨fun h => absurd h (by show ¬ 0 = 3; decide), fun _ => ⟨okm_X1_takeRetest, tb_in 405 (by decide +kernel) rfl, tb_in 32 (by decide +kernel) rfl, by decide +kernel, by decide +kernel, by decide +kernel⟩, fun _ => ⟨tb_in 406 (by decide +kernel) rfl, tb_in 407 (by decide +kernel) rfl⟩, fun h => absurd h (by show ¬ 0 = 1; decide), fun h => absurd h (by show ¬ 0 = 2; decide), fun h => absurd h (by show ¬ 0 = 4; decide), fun h => absurd h (by show ¬ 0 = 5; decide)⟩
theorem okc_55 : pm_okC vwCl tb_R tb_T 1 154 (1, mJ6_bitCount_0f7a4, 1) := ⟨fun h => absurd h (by show ¬ 1 = 3; decide), fun _ => ⟨okm_J6_bitCount_0f7a4, tb_in 409 (by decide +kernel) rfl, tb_in 38 (by decide +kernel) rfl, by decide +kernel, by decide +kernel, by decide +kernel⟩, fun h => absurd h (by show ¬ 1 = 0; decide), fun _ => tb_in 410 (by decide +kernel) rfl, fun h => absurd h (by show ¬ 1 = 2; decide), fun h => absurd h (by show ¬ 1 = 4; decide), fun h => absurd h (by show ¬ 1 = 5; decide)⟩
theorem okc_56 : pm_okC vwCl tb_R tb_T 1 159 (0, mX1_giveBonuses, 1) := ⟨fun h => absurd h (by show ¬ 0 = 3; decide), fun _ => ⟨okm_X1_giveBonuses, tb_in 415 (by decide +kernel) rfl, tb_in 32 (by decide +kernel) rfl, by decide +kernel, by decide +kernel, by decide +kernel⟩, fun _ => ⟨tb_in 416 (by decide +kernel) rfl, tb_in 417 (by decide +kernel) rfl⟩, fun h => absurd h (by show ¬ 0 = 1; decide), fun h => absurd h (by show ¬ 0 = 2; decide), fun h => absurd h (by show ¬ 0 = 4; decide), fun h => absurd h (by show ¬ 0 = 5; decide)⟩
theorem okc_57 : pm_okC vwCl tb_R tb_T 1 167 (0, mX1_releaseFolded, 1) := ⟨fun h => absurd h (by show ¬ 0 = 3; decide), fun _ => ⟨okm_X1_releaseFolded, tb_in 419 (by decide +kernel) rfl, tb_in 32 (by decide +kernel) rfl, by decide +kernel, by decide +kernel, by decide +kernel⟩, fun _ => ⟨tb_in 362 (by decide +kernel) rfl, tb_in 363 (by decide +kernel) rfl⟩, fun h => absurd h (by show ¬ 0 = 1; decide), fun h => absurd h (by show ¬ 0 = 2; decide), fun h => absurd h (by show ¬ 0 = 4; decide), fun h => absurd h (by show ¬ 0 = 5; decide)⟩
theorem okc_58 : pm_okC vwCl tb_R tb_T 8 69 (0, mX4_pass, 1) := ⟨fun h => absurd h (by show ¬ 0 = 3; decide), fun _ => ⟨okm_X4_pass, tb_in 420 (by decide +kernel) rfl, tb_in 31 (by decide +kernel) rfl, by decide +kernel, by decide +kernel, by decide +kernel⟩, fun _ => ⟨tb_in 421 (by decide +kernel) rfl, tb_in 422 (by decide +kernel) rfl⟩, fun h => absurd h (by show ¬ 0 = 1; decide), fun h => absurd h (by show ¬ 0 = 2; decide), fun h => absurd h (by show ¬ 0 = 4; decide), fun h => absurd h (by show ¬ 0 = 5; decide)⟩
theorem okc_59 : pm_okC vwCl tb_R tb_T 4 147 (0, mX1_beginQuarter, 0) := ⟨fun h => absurd h (by show ¬ 0 = 3; decide), fun _ => ⟨okm_X1_beginQuarter, tb_in 424 (by decide +kernel) rfl, tb_in 32 (by decide +kernel) rfl, by decide +kernel, by decide +kernel, by decide +kernel⟩, fun _ => ⟨tb_in 425 (by decide +kernel) rfl, tb_in 426 (by decide +kernel) rfl⟩, fun h => absurd h (by show ¬ 0 = 1; decide), fun h => absurd h (by show ¬ 0 = 2; decide), fun h => absurd h (by show ¬ 0 = 4; decide), fun h => absurd h (by show ¬ 0 = 5; decide)⟩
theorem okc_60 : pm_okC vwCl tb_R tb_T 1 144 (0, mX1_payOrWait, 1) := ⟨fun h => absurd h (by show ¬ 0 = 3; decide), fun _ => ⟨okm_X1_payOrWait, tb_in 428 (by decide +kernel) rfl, tb_in 32 (by decide +kernel) rfl, by decide +kernel, by decide +kernel, by decide +kernel⟩, fun _ => ⟨tb_in 384 (by decide +kernel) rfl, tb_in 385 (by decide +kernel) rfl⟩, fun h => absurd h (by show ¬ 0 = 1; decide), fun h => absurd h (by show ¬ 0 = 2; decide), fun h => absurd h (by show ¬ 0 = 4; decide), fun h => absurd h (by show ¬ 0 = 5; decide)⟩
theorem okc_61 : pm_okC vwCl tb_R tb_T 8 73 (0, mX4_undo, 0) := ⟨fun h => absurd h (by show ¬ 0 = 3; decide), fun _ => ⟨okm_X4_undo, tb_in 429 (by decide +kernel) rfl, tb_in 31 (by decide +kernel) rfl, by decide +kernel, by decide +kernel, by decide +kernel⟩, fun _ => ⟨tb_in 430 (by decide +kernel) rfl, tb_in 431 (by decide +kernel) rfl⟩, fun h => absurd h (by show ¬ 0 = 1; decide), fun h => absurd h (by show ¬ 0 = 2; decide), fun h => absurd h (by show ¬ 0 = 4; decide), fun h => absurd h (by show ¬ 0 = 5; decide)⟩
theorem okc_62 : pm_okC vwCl tb_R tb_T 8 77 (0, mX4_count, 1) := ⟨fun h => absurd h (by show ¬ 0 = 3; decide), fun _ => ⟨okm_X4_count, tb_in 433 (by decide +kernel) rfl, tb_in 31 (by decide +kernel) rfl, by decide +kernel, by decide +kernel, by decide +kernel⟩, fun _ => ⟨tb_in 434 (by decide +kernel) rfl, tb_in 435 (by decide +kernel) rfl⟩, fun h => absurd h (by show ¬ 0 = 1; decide), fun h => absurd h (by show ¬ 0 = 2; decide), fun h => absurd h (by show ¬ 0 = 4; decide), fun h => absurd h (by show ¬ 0 = 5; decide)⟩
theorem okc_63 : pm_okC vwCl tb_R tb_T 4 154 (0, mX1_reportsInState, 1) := ⟨fun h => absurd h (by show ¬ 0 = 3; decide), fun _ => ⟨okm_X1_reportsInState, tb_in 437 (by decide +kernel) rfl, tb_in 32 (by decide +kernel) rfl, by decide +kernel, by decide +kernel, by decide +kernel⟩, fun _ => ⟨tb_in 438 (by decide +kernel) rfl, tb_in 439 (by decide +kernel) rfl⟩, fun h => absurd h (by show ¬ 0 = 1; decide), fun h => absurd h (by show ¬ 0 = 2; decide), fun h => absurd h (by show ¬ 0 = 4; decide), fun h => absurd h (by show ¬ 0 = 5; decide)⟩
theorem okc_64 : pm_okC vwCl tb_R tb_T 4 157 (0, mX1_moneyInPools, 0) := ⟨fun h => absurd h (by show ¬ 0 = 3; decide), fun _ => ⟨okm_X1_moneyInPools, tb_in 441 (by decide +kernel) rfl, tb_in 32 (by decide +kernel) rfl, by decide +kernel, by decide +kernel, by decide +kernel⟩, fun _ => ⟨tb_in 442 (by decide +kernel) rfl, tb_in 443 (by decide +kernel) rfl⟩, fun h => absurd h (by show ¬ 0 = 1; decide), fun h => absurd h (by show ¬ 0 = 2; decide), fun h => absurd h (by show ¬ 0 = 4; decide), fun h => absurd h (by show ¬ 0 = 5; decide)⟩
theorem okc_65 : pm_okC vwCl tb_R tb_T 4 166 (0, mX1_openAppeals, 0) := ⟨fun h => absurd h (by show ¬ 0 = 3; decide), fun _ => ⟨okm_X1_openAppeals, tb_in 445 (by decide +kernel) rfl, tb_in 32 (by decide +kernel) rfl, by decide +kernel, by decide +kernel, by decide +kernel⟩, fun _ => ⟨tb_in 446 (by decide +kernel) rfl, tb_in 447 (by decide +kernel) rfl⟩, fun h => absurd h (by show ¬ 0 = 1; decide), fun h => absurd h (by show ¬ 0 = 2; decide), fun h => absurd h (by show ¬ 0 = 4; decide), fun h => absurd h (by show ¬ 0 = 5; decide)⟩
theorem okc_66 : pm_okC vwCl tb_R tb_T 8 81 (0, mX4_asset, 2) := ⟨fun h => absurd h (by show ¬ 0 = 3; decide), fun _ => ⟨okm_X4_asset, tb_in 449 (by decide +kernel) rfl, tb_in 31 (by decide +kernel) rfl, by decide +kernel, by decide +kernel, by decide +kernel⟩, fun _ => ⟨tb_in 450 (by decide +kernel) rfl, tb_in 451 (by decide +kernel) rfl⟩, fun h => absurd h (by show ¬ 0 = 1; decide), fun h => absurd h (by show ¬ 0 = 2; decide), fun h => absurd h (by show ¬ 0 = 4; decide), fun h => absurd h (by show ¬ 0 = 5; decide)⟩
theorem okc_67 : pm_okC vwCl tb_R tb_T 4 184 (0, mX1_reportsFor, 1) := ⟨fun h => absurd h (by show ¬ 0 = 3; decide), fun _ => ⟨okm_X1_reportsFor, tb_in 453 (by decide +kernel) rfl, tb_in 32 (by decide +kernel) rfl, by decide +kernel, by decide +kernel, by decide +kernel⟩, fun _ => ⟨tb_in 454 (by decide +kernel) rfl, tb_in 455 (by decide +kernel) rfl⟩, fun h => absurd h (by show ¬ 0 = 1; decide), fun h => absurd h (by show ¬ 0 = 2; decide), fun h => absurd h (by show ¬ 0 = 4; decide), fun h => absurd h (by show ¬ 0 = 5; decide)⟩
theorem okc_68 : pm_okC vwCl tb_R tb_T 4 187 (0, mX1_payablePrices, 1) := ⟨fun h => absurd h (by show ¬ 0 = 3; decide), fun _ => ⟨okm_X1_payablePrices, tb_in 457 (by decide +kernel) rfl, tb_in 32 (by decide +kernel) rfl, by decide +kernel, by decide +kernel, by decide +kernel⟩, fun _ => ⟨tb_in 458 (by decide +kernel) rfl, tb_in 459 (by decide +kernel) rfl⟩, fun h => absurd h (by show ¬ 0 = 1; decide), fun h => absurd h (by show ¬ 0 = 2; decide), fun h => absurd h (by show ¬ 0 = 4; decide), fun h => absurd h (by show ¬ 0 = 5; decide)⟩
theorem okc_69 : pm_okC vwCl tb_R tb_T 1 176 (0, mX3_isPayable, 0) := ⟨fun h => absurd h (by show ¬ 0 = 3; decide), fun _ => ⟨okm_X3_isPayable, tb_in 461 (by decide +kernel) rfl, tb_in 35 (by decide +kernel) rfl, by decide +kernel, by decide +kernel, by decide +kernel⟩, fun _ => ⟨tb_in 358 (by decide +kernel) rfl, tb_in 359 (by decide +kernel) rfl⟩, fun h => absurd h (by show ¬ 0 = 1; decide), fun h => absurd h (by show ¬ 0 = 2; decide), fun h => absurd h (by show ¬ 0 = 4; decide), fun h => absurd h (by show ¬ 0 = 5; decide)⟩
theorem okc_70 : pm_okC vwCl tb_R tb_T 8 85 (0, mX4_hunter, 2) := ⟨fun h => absurd h (by show ¬ 0 = 3; decide), fun _ => ⟨okm_X4_hunter, tb_in 462 (by decide +kernel) rfl, tb_in 31 (by decide +kernel) rfl, by decide +kernel, by decide +kernel, by decide +kernel⟩, fun _ => ⟨tb_in 463 (by decide +kernel) rfl, tb_in 464 (by decide +kernel) rfl⟩, fun h => absurd h (by show ¬ 0 = 1; decide), fun h => absurd h (by show ¬ 0 = 2; decide), fun h => absurd h (by show ¬ 0 = 4; decide), fun h => absurd h (by show ¬ 0 = 5; decide)⟩
theorem okc_71 : pm_okC vwCl tb_R tb_T 4 194 (0, mX1_reportsBy, 1) := ⟨fun h => absurd h (by show ¬ 0 = 3; decide), fun _ => ⟨okm_X1_reportsBy, tb_in 466 (by decide +kernel) rfl, tb_in 32 (by decide +kernel) rfl, by decide +kernel, by decide +kernel, by decide +kernel⟩, fun _ => ⟨tb_in 467 (by decide +kernel) rfl, tb_in 468 (by decide +kernel) rfl⟩, fun h => absurd h (by show ¬ 0 = 1; decide), fun h => absurd h (by show ¬ 0 = 2; decide), fun h => absurd h (by show ¬ 0 = 4; decide), fun h => absurd h (by show ¬ 0 = 5; decide)⟩
theorem okc_72 : pm_okC vwCl tb_R tb_T 4 202 (0, mX1_standingOf, 1) := ⟨fun h => absurd h (by show ¬ 0 = 3; decide), fun _ => ⟨okm_X1_standingOf, tb_in 470 (by decide +kernel) rfl, tb_in 32 (by decide +kernel) rfl, by decide +kernel, by decide +kernel, by decide +kernel⟩, fun _ => ⟨tb_in 471 (by decide +kernel) rfl, tb_in 472 (by decide +kernel) rfl⟩, fun h => absurd h (by show ¬ 0 = 1; decide), fun h => absurd h (by show ¬ 0 = 2; decide), fun h => absurd h (by show ¬ 0 = 4; decide), fun h => absurd h (by show ¬ 0 = 5; decide)⟩
theorem okc_73 : pm_okC vwCl tb_R tb_T 1 173 (1, mX1_standingFor, 1) := ⟨fun h => absurd h (by show ¬ 1 = 3; decide), fun _ => ⟨okm_X1_standingFor, tb_in 474 (by decide +kernel) rfl, tb_in 32 (by decide +kernel) rfl, by decide +kernel, by decide +kernel, by decide +kernel⟩, fun h => absurd h (by show ¬ 1 = 0; decide), fun _ => tb_in 475 (by decide +kernel) rfl, fun h => absurd h (by show ¬ 1 = 2; decide), fun h => absurd h (by show ¬ 1 = 4; decide), fun h => absurd h (by show ¬ 1 = 5; decide)⟩
theorem okc_74 : pm_okC vwCl tb_R tb_T 8 89 (0, mX4_reportOf, 2) := ⟨fun h => absurd h (by show ¬ 0 = 3; decide), fun _ => ⟨okm_X4_reportOf, tb_in 477 (by decide +kernel) rfl, tb_in 31 (by decide +kernel) rfl, by decide +kernel, by decide +kernel, by decide +kernel⟩, fun _ => ⟨tb_in 478 (by decide +kernel) rfl, tb_in 479 (by decide +kernel) rfl⟩, fun h => absurd h (by show ¬ 0 = 1; decide), fun h => absurd h (by show ¬ 0 = 2; decide), fun h => absurd h (by show ¬ 0 = 4; decide), fun h => absurd h (by show ¬ 0 = 5; decide)⟩
theorem okc_75 : pm_okC vwCl tb_R tb_T 4 223 (0, mX3_hasSeverity, 0) := ⟨fun h => absurd h (by show ¬ 0 = 3; decide), fun _ => ⟨okm_X3_hasSeverity, tb_in 481 (by decide +kernel) rfl, tb_in 35 (by decide +kernel) rfl, by decide +kernel, by decide +kernel, by decide +kernel⟩, fun _ => ⟨tb_in 482 (by decide +kernel) rfl, tb_in 483 (by decide +kernel) rfl⟩, fun h => absurd h (by show ¬ 0 = 1; decide), fun h => absurd h (by show ¬ 0 = 2; decide), fun h => absurd h (by show ¬ 0 = 4; decide), fun h => absurd h (by show ¬ 0 = 5; decide)⟩
theorem okc_76 : pm_okC vwCl tb_R tb_T 3 52 (0, mX3_isPayable, 0) := ⟨fun h => absurd h (by show ¬ 0 = 3; decide), fun _ => ⟨okm_X3_isPayable, tb_in 485 (by decide +kernel) rfl, tb_in 35 (by decide +kernel) rfl, by decide +kernel, by decide +kernel, by decide +kernel⟩, fun _ => ⟨tb_in 358 (by decide +kernel) rfl, tb_in 359 (by decide +kernel) rfl⟩, fun h => absurd h (by show ¬ 0 = 1; decide), fun h => absurd h (by show ¬ 0 = 2; decide), fun h => absurd h (by show ¬ 0 = 4; decide), fun h => absurd h (by show ¬ 0 = 5; decide)⟩
theorem okc_77 : pm_okC vwCl tb_R tb_T 4 226 (0, mX1_foldedReports, 1) := ⟨fun h => absurd h (by show ¬ 0 = 3; decide), fun _ => ⟨okm_X1_foldedReports, tb_in 486 (by decide +kernel) rfl, tb_in 32 (by decide +kernel) rfl, by decide +kernel, by decide +kernel, by decide +kernel⟩, fun _ => ⟨tb_in 487 (by decide +kernel) rfl, tb_in 488 (by decide +kernel) rfl⟩, fun h => absurd h (by show ¬ 0 = 1; decide), fun h => absurd h (by show ¬ 0 = 2; decide), fun h => absurd h (by show ¬ 0 = 4; decide), fun h => absurd h (by show ¬ 0 = 5; decide)⟩
theorem okc_78 : pm_okC vwCl tb_R tb_T 4 235 (1, mJ6_bitCount_0f7a4, 1) := ⟨fun h => absurd h (by show ¬ 1 = 3; decide), fun _ => ⟨okm_J6_bitCount_0f7a4, tb_in 490 (by decide +kernel) rfl, tb_in 38 (by decide +kernel) rfl, by decide +kernel, by decide +kernel, by decide +kernel⟩, fun h => absurd h (by show ¬ 1 = 0; decide), fun _ => tb_in 410 (by decide +kernel) rfl, fun h => absurd h (by show ¬ 1 = 2; decide), fun h => absurd h (by show ¬ 1 = 4; decide), fun h => absurd h (by show ¬ 1 = 5; decide)⟩
theorem okc_79 : pm_okC vwCl tb_R tb_T 8 93 (0, mX4_original, 1) := ⟨fun h => absurd h (by show ¬ 0 = 3; decide), fun _ => ⟨okm_X4_original, tb_in 491 (by decide +kernel) rfl, tb_in 31 (by decide +kernel) rfl, by decide +kernel, by decide +kernel, by decide +kernel⟩, fun _ => ⟨tb_in 492 (by decide +kernel) rfl, tb_in 493 (by decide +kernel) rfl⟩, fun h => absurd h (by show ¬ 0 = 1; decide), fun h => absurd h (by show ¬ 0 = 2; decide), fun h => absurd h (by show ¬ 0 = 4; decide), fun h => absurd h (by show ¬ 0 = 5; decide)⟩
theorem okc_80 : pm_okC vwCl tb_R tb_T 8 97 (0, mX4_lack, 0) := ⟨fun h => absurd h (by show ¬ 0 = 3; decide), fun _ => ⟨okm_X4_lack, tb_in 495 (by decide +kernel) rfl, tb_in 31 (by decide +kernel) rfl, by decide +kernel, by decide +kernel, by decide +kernel⟩, fun _ => ⟨tb_in 496 (by decide +kernel) rfl, tb_in 497 (by decide +kernel) rfl⟩, fun h => absurd h (by show ¬ 0 = 1; decide), fun h => absurd h (by show ¬ 0 = 2; decide), fun h => absurd h (by show ¬ 0 = 4; decide), fun h => absurd h (by show ¬ 0 = 5; decide)⟩
theorem okc_81 : pm_okC vwCl tb_R tb_T 4 243 (4, mJ9_max_7cf53, 2) := ⟨fun h => absurd h (by show ¬ 4 = 3; decide), fun h => absurd h (by show ¬ 4 < 3; decide), fun h => absurd h (by show ¬ 4 = 0; decide), fun h => absurd h (by show ¬ 4 = 1; decide), fun h => absurd h (by show ¬ 4 = 2; decide), fun _ => ⟨tb_in 499 (by decide +kernel) rfl, tb_in 500 (by decide +kernel) rfl, tb_in 37 (by decide +kernel) rfl, tb_in 501 (by decide +kernel) rfl⟩, fun h => absurd h (by show ¬ 4 = 5; decide)⟩
theorem okc_82 : pm_okC vwCl tb_R tb_T 8 101 (0, mX4_best, 1) := ⟨fun h => absurd h (by show ¬ 0 = 3; decide), fun _ => ⟨okm_X4_best, tb_in 502 (by decide +kernel) rfl, tb_in 31 (by decide +kernel) rfl, by decide +kernel, by decide +kernel, by decide +kernel⟩, fun _ => ⟨tb_in 503 (by decide +kernel) rfl, tb_in 504 (by decide +kernel) rfl⟩, fun h => absurd h (by show ¬ 0 = 1; decide), fun h => absurd h (by show ¬ 0 = 2; decide), fun h => absurd h (by show ¬ 0 = 4; decide), fun h => absurd h (by show ¬ 0 = 5; decide)⟩
theorem okc_83 : pm_okC vwCl tb_R tb_T 4 248 (0, mX4_huntersAheadOf, 1) := ⟨fun h => absurd h (by show ¬ 0 = 3; decide), fun _ => ⟨okm_X4_huntersAheadOf, tb_in 506 (by decide +kernel) rfl, tb_in 31 (by decide +kernel) rfl, by decide +kernel, by decide +kernel, by decide +kernel⟩, fun _ => ⟨tb_in 508 (by decide +kernel) rfl, tb_in 1 (by decide +kernel) rfl⟩, fun h => absurd h (by show ¬ 0 = 1; decide), fun h => absurd h (by show ¬ 0 = 2; decide), fun h => absurd h (by show ¬ 0 = 4; decide), fun h => absurd h (by show ¬ 0 = 5; decide)⟩
theorem okc_84 : pm_okC vwCl tb_R tb_T 4 254 (0, mX4_isAhead, 2) := ⟨fun h => absurd h (by show ¬ 0 = 3; decide), fun _ => ⟨okm_X4_isAhead, tb_in 510 (by decide +kernel) rfl, tb_in 31 (by decide +kernel) rfl, by decide +kernel, by decide +kernel, by decide +kernel⟩, fun _ => ⟨tb_in 512 (by decide +kernel) rfl, tb_in 2 (by decide +kernel) rfl⟩, fun h => absurd h (by show ¬ 0 = 1; decide), fun h => absurd h (by show ¬ 0 = 2; decide), fun h => absurd h (by show ¬ 0 = 4; decide), fun h => absurd h (by show ¬ 0 = 5; decide)⟩
theorem okc_85 : pm_okC vwCl tb_R tb_T 8 105 (0, mX4_paidIn, 1) := ⟨fun h => absurd h (by show ¬ 0 = 3; decide), fun _ => ⟨okm_X4_paidIn, tb_in 514 (by decide +kernel) rfl, tb_in 31 (by decide +kernel) rfl, by decide +kernel, by decide +kernel, by decide +kernel⟩, fun _ => ⟨tb_in 515 (by decide +kernel) rfl, tb_in 516 (by decide +kernel) rfl⟩, fun h => absurd h (by show ¬ 0 = 1; decide), fun h => absurd h (by show ¬ 0 = 2; decide), fun h => absurd h (by show ¬ 0 = 4; decide), fun h => absurd h (by show ¬ 0 = 5; decide)⟩
theorem okc_86 : pm_okC vwCl tb_R tb_T 8 12 (2, mX5_init, 0) := ⟨fun h => absurd h (by show ¬ 2 = 3; decide), fun _ => ⟨okm_X5_init, tb_in 520 (by decide +kernel) rfl, tb_in 36 (by decide +kernel) rfl, by decide +kernel, by decide +kernel, by decide +kernel⟩, fun h => absurd h (by show ¬ 2 = 0; decide), fun h => absurd h (by show ¬ 2 = 1; decide), fun _ => ⟨rfl, tb_in 521 (by decide +kernel) rfl, rfl⟩, fun h => absurd h (by show ¬ 2 = 4; decide), fun h => absurd h (by show ¬ 2 = 5; decide)⟩
theorem okc_87 : pm_okC vwCl tb_R tb_T 5 1 (3, mL_law, 0) := ⟨fun _ => ⟨tb_in 523 (by decide +kernel) rfl, tb_in 45 (by decide +kernel) rfl, tb_in 46 (by decide +kernel) rfl⟩, fun h => absurd h (by show ¬ 3 < 3; decide), fun h => absurd h (by show ¬ 3 = 0; decide), fun h => absurd h (by show ¬ 3 = 1; decide), fun h => absurd h (by show ¬ 3 = 2; decide), fun h => absurd h (by show ¬ 3 = 4; decide), fun h => absurd h (by show ¬ 3 = 5; decide)⟩
theorem okc_88 : pm_okC vwCl tb_R tb_T 8 76 (0, mX5_undo, 0) := ⟨fun h => absurd h (by show ¬ 0 = 3; decide), fun _ => ⟨okm_X5_undo, tb_in 540 (by decide +kernel) rfl, tb_in 36 (by decide +kernel) rfl, by decide +kernel, by decide +kernel, by decide +kernel⟩, fun _ => ⟨tb_in 541 (by decide +kernel) rfl, tb_in 542 (by decide +kernel) rfl⟩, fun h => absurd h (by show ¬ 0 = 1; decide), fun h => absurd h (by show ¬ 0 = 2; decide), fun h => absurd h (by show ¬ 0 = 4; decide), fun h => absurd h (by show ¬ 0 = 5; decide)⟩
theorem okc_89 : pm_okC vwCl tb_R tb_T 8 17 (0, mX5_addAsset, 2) := ⟨fun h => absurd h (by show ¬ 0 = 3; decide), fun _ => ⟨okm_X5_addAsset, tb_in 544 (by decide +kernel) rfl, tb_in 36 (by decide +kernel) rfl, by decide +kernel, by decide +kernel, by decide +kernel⟩, fun _ => ⟨tb_in 545 (by decide +kernel) rfl, tb_in 546 (by decide +kernel) rfl⟩, fun h => absurd h (by show ¬ 0 = 1; decide), fun h => absurd h (by show ¬ 0 = 2; decide), fun h => absurd h (by show ¬ 0 = 4; decide), fun h => absurd h (by show ¬ 0 = 5; decide)⟩
theorem okc_90 : pm_okC vwCl tb_R tb_T 5 26 (1, mX5_in, 3) := ⟨fun h => absurd h (by show ¬ 1 = 3; decide), fun _ => ⟨okm_X5_in, tb_in 548 (by decide +kernel) rfl, tb_in 36 (by decide +kernel) rfl, by decide +kernel, by decide +kernel, by decide +kernel⟩, fun h => absurd h (by show ¬ 1 = 0; decide), fun _ => tb_in 549 (by decide +kernel) rfl, fun h => absurd h (by show ¬ 1 = 2; decide), fun h => absurd h (by show ¬ 1 = 4; decide), fun h => absurd h (by show ¬ 1 = 5; decide)⟩
theorem okc_91 : pm_okC vwCl tb_R tb_T 5 34 (0, mX5_keeps, 0) := ⟨fun h => absurd h (by show ¬ 0 = 3; decide), fun _ => ⟨okm_X5_keeps, tb_in 551 (by decide +kernel) rfl, tb_in 36 (by decide +kernel) rfl, by decide +kernel, by decide +kernel, by decide +kernel⟩, fun _ => ⟨tb_in 553 (by decide +kernel) rfl, tb_in 3 (by decide +kernel) rfl⟩, fun h => absurd h (by show ¬ 0 = 1; decide), fun h => absurd h (by show ¬ 0 = 2; decide), fun h => absurd h (by show ¬ 0 = 4; decide), fun h => absurd h (by show ¬ 0 = 5; decide)⟩
theorem okc_92 : pm_okC vwCl tb_R tb_T 5 37 (1, mX5_atAsset, 2) := ⟨fun h => absurd h (by show ¬ 1 = 3; decide), fun _ => ⟨okm_X5_atAsset, tb_in 555 (by decide +kernel) rfl, tb_in 36 (by decide +kernel) rfl, by decide +kernel, by decide +kernel, by decide +kernel⟩, fun h => absurd h (by show ¬ 1 = 0; decide), fun _ => tb_in 556 (by decide +kernel) rfl, fun h => absurd h (by show ¬ 1 = 2; decide), fun h => absurd h (by show ¬ 1 = 4; decide), fun h => absurd h (by show ¬ 1 = 5; decide)⟩
theorem okc_93 : pm_okC vwCl tb_R tb_T 8 22 (0, mX5_addHunter, 0) := ⟨fun h => absurd h (by show ¬ 0 = 3; decide), fun _ => ⟨okm_X5_addHunter, tb_in 558 (by decide +kernel) rfl, tb_in 36 (by decide +kernel) rfl, by decide +kernel, by decide +kernel, by decide +kernel⟩, fun _ => ⟨tb_in 559 (by decide +kernel) rfl, tb_in 560 (by decide +kernel) rfl⟩, fun h => absurd h (by show ¬ 0 = 1; decide), fun h => absurd h (by show ¬ 0 = 2; decide), fun h => absurd h (by show ¬ 0 = 4; decide), fun h => absurd h (by show ¬ 0 = 5; decide)⟩
theorem okc_94 : pm_okC vwCl tb_R tb_T 8 27 (0, mX5_fill, 1) := ⟨fun h => absurd h (by show ¬ 0 = 3; decide), fun _ => ⟨okm_X5_fill, tb_in 562 (by decide +kernel) rfl, tb_in 36 (by decide +kernel) rfl, by decide +kernel, by decide +kernel, by decide +kernel⟩, fun _ => ⟨tb_in 563 (by decide +kernel) rfl, tb_in 564 (by decide +kernel) rfl⟩, fun h => absurd h (by show ¬ 0 = 1; decide), fun h => absurd h (by show ¬ 0 = 2; decide), fun h => absurd h (by show ¬ 0 = 4; decide), fun h => absurd h (by show ¬ 0 = 5; decide)⟩
theorem okc_95 : pm_okC vwCl tb_R tb_T 8 31 (0, mX5_setRate, 1) := ⟨fun h => absurd h (by show ¬ 0 = 3; decide), fun _ => ⟨okm_X5_setRate, tb_in 568 (by decide +kernel) rfl, tb_in 36 (by decide +kernel) rfl, by decide +kernel, by decide +kernel, by decide +kernel⟩, fun _ => ⟨tb_in 569 (by decide +kernel) rfl, tb_in 570 (by decide +kernel) rfl⟩, fun h => absurd h (by show ¬ 0 = 1; decide), fun h => absurd h (by show ¬ 0 = 2; decide), fun h => absurd h (by show ¬ 0 = 4; decide), fun h => absurd h (by show ¬ 0 = 5; decide)⟩
theorem okc_96 : pm_okC vwCl tb_R tb_T 5 42 (0, mX5_sets, 4) := ⟨fun h => absurd h (by show ¬ 0 = 3; decide), fun _ => ⟨okm_X5_sets, tb_in 572 (by decide +kernel) rfl, tb_in 36 (by decide +kernel) rfl, by decide +kernel, by decide +kernel, by decide +kernel⟩, fun _ => ⟨tb_in 574 (by decide +kernel) rfl, tb_in 4 (by decide +kernel) rfl⟩, fun h => absurd h (by show ¬ 0 = 1; decide), fun h => absurd h (by show ¬ 0 = 2; decide), fun h => absurd h (by show ¬ 0 = 4; decide), fun h => absurd h (by show ¬ 0 = 5; decide)⟩
theorem okc_97 : pm_okC vwCl tb_R tb_T 8 35 (0, mX5_setBonus, 1) := ⟨fun h => absurd h (by show ¬ 0 = 3; decide), fun _ => ⟨okm_X5_setBonus, tb_in 576 (by decide +kernel) rfl, tb_in 36 (by decide +kernel) rfl, by decide +kernel, by decide +kernel, by decide +kernel⟩, fun _ => ⟨tb_in 577 (by decide +kernel) rfl, tb_in 578 (by decide +kernel) rfl⟩, fun h => absurd h (by show ¬ 0 = 1; decide), fun h => absurd h (by show ¬ 0 = 2; decide), fun h => absurd h (by show ¬ 0 = 4; decide), fun h => absurd h (by show ¬ 0 = 5; decide)⟩
theorem okc_98 : pm_okC vwCl tb_R tb_T 8 40 (0, mX5_report, 3) := ⟨fun h => absurd h (by show ¬ 0 = 3; decide), fun _ => ⟨okm_X5_report, tb_in 580 (by decide +kernel) rfl, tb_in 36 (by decide +kernel) rfl, by decide +kernel, by decide +kernel, by decide +kernel⟩, fun _ => ⟨tb_in 581 (by decide +kernel) rfl, tb_in 582 (by decide +kernel) rfl⟩, fun h => absurd h (by show ¬ 0 = 1; decide), fun h => absurd h (by show ¬ 0 = 2; decide), fun h => absurd h (by show ¬ 0 = 4; decide), fun h => absurd h (by show ¬ 0 = 5; decide)⟩
theorem okc_99 : pm_okC vwCl tb_R tb_T 5 46 (0, mX5_isHunter, 1) := ⟨fun h => absurd h (by show ¬ 0 = 3; decide), fun _ => ⟨okm_X5_isHunter, tb_in 584 (by decide +kernel) rfl, tb_in 36 (by decide +kernel) rfl, by decide +kernel, by decide +kernel, by decide +kernel⟩, fun _ => ⟨tb_in 586 (by decide +kernel) rfl, tb_in 5 (by decide +kernel) rfl⟩, fun h => absurd h (by show ¬ 0 = 1; decide), fun h => absurd h (by show ¬ 0 = 2; decide), fun h => absurd h (by show ¬ 0 = 4; decide), fun h => absurd h (by show ¬ 0 = 5; decide)⟩
theorem okc_100 : pm_okC vwCl tb_R tb_T 5 50 (0, mX5_isAsset, 1) := ⟨fun h => absurd h (by show ¬ 0 = 3; decide), fun _ => ⟨okm_X5_isAsset, tb_in 588 (by decide +kernel) rfl, tb_in 36 (by decide +kernel) rfl, by decide +kernel, by decide +kernel, by decide +kernel⟩, fun _ => ⟨tb_in 590 (by decide +kernel) rfl, tb_in 6 (by decide +kernel) rfl⟩, fun h => absurd h (by show ¬ 0 = 1; decide), fun h => absurd h (by show ¬ 0 = 2; decide), fun h => absurd h (by show ¬ 0 = 4; decide), fun h => absurd h (by show ¬ 0 = 5; decide)⟩
theorem okc_101 : pm_okC vwCl tb_R tb_T 5 30 (1, mX5_at, 2) := ⟨fun h => absurd h (by show ¬ 1 = 3; decide), fun _ => ⟨okm_X5_at, tb_in 592 (by decide +kernel) rfl, tb_in 36 (by decide +kernel) rfl, by decide +kernel, by decide +kernel, by decide +kernel⟩, fun h => absurd h (by show ¬ 1 = 0; decide), fun _ => tb_in 593 (by decide +kernel) rfl, fun h => absurd h (by show ¬ 1 = 2; decide), fun h => absurd h (by show ¬ 1 = 4; decide), fun h => absurd h (by show ¬ 1 = 5; decide)⟩
theorem okc_102 : pm_okC vwCl tb_R tb_T 8 96 (0, mX5_original, 1) := ⟨fun h => absurd h (by show ¬ 0 = 3; decide), fun _ => ⟨okm_X5_original, tb_in 595 (by decide +kernel) rfl, tb_in 36 (by decide +kernel) rfl, by decide +kernel, by decide +kernel, by decide +kernel⟩, fun _ => ⟨tb_in 596 (by decide +kernel) rfl, tb_in 597 (by decide +kernel) rfl⟩, fun h => absurd h (by show ¬ 0 = 1; decide), fun h => absurd h (by show ¬ 0 = 2; decide), fun h => absurd h (by show ¬ 0 = 4; decide), fun h => absurd h (by show ¬ 0 = 5; decide)⟩
theorem okc_103 : pm_okC vwCl tb_R tb_T 5 56 (0, mX5_isReport, 1) := ⟨fun h => absurd h (by show ¬ 0 = 3; decide), fun _ => ⟨okm_X5_isReport, tb_in 599 (by decide +kernel) rfl, tb_in 36 (by decide +kernel) rfl, by decide +kernel, by decide +kernel, by decide +kernel⟩, fun _ => ⟨tb_in 601 (by decide +kernel) rfl, tb_in 7 (by decide +kernel) rfl⟩, fun h => absurd h (by show ¬ 0 = 1; decide), fun h => absurd h (by show ¬ 0 = 2; decide), fun h => absurd h (by show ¬ 0 = 4; decide), fun h => absurd h (by show ¬ 0 = 5; decide)⟩
theorem okc_104 : pm_okC vwCl tb_R tb_T 5 59 (0, mX5_originalOf, 1) := ⟨fun h => absurd h (by show ¬ 0 = 3; decide), fun _ => ⟨okm_X5_originalOf, tb_in 603 (by decide +kernel) rfl, tb_in 36 (by decide +kernel) rfl, by decide +kernel, by decide +kernel, by decide +kernel⟩, fun _ => ⟨tb_in 605 (by decide +kernel) rfl, tb_in 8 (by decide +kernel) rfl⟩, fun h => absurd h (by show ¬ 0 = 1; decide), fun h => absurd h (by show ¬ 0 = 2; decide), fun h => absurd h (by show ¬ 0 = 4; decide), fun h => absurd h (by show ¬ 0 = 5; decide)⟩
theorem okc_105 : pm_okC vwCl tb_R tb_T 5 53 (0, mX5_of, 2) := ⟨fun h => absurd h (by show ¬ 0 = 3; decide), fun _ => ⟨okm_X5_of, tb_in 607 (by decide +kernel) rfl, tb_in 36 (by decide +kernel) rfl, by decide +kernel, by decide +kernel, by decide +kernel⟩, fun _ => ⟨tb_in 609 (by decide +kernel) rfl, tb_in 9 (by decide +kernel) rfl⟩, fun h => absurd h (by show ¬ 0 = 1; decide), fun h => absurd h (by show ¬ 0 = 2; decide), fun h => absurd h (by show ¬ 0 = 4; decide), fun h => absurd h (by show ¬ 0 = 5; decide)⟩
theorem okc_106 : pm_okC vwCl tb_R tb_T 8 44 (0, mX5_fold, 1) := ⟨fun h => absurd h (by show ¬ 0 = 3; decide), fun _ => ⟨okm_X5_fold, tb_in 611 (by decide +kernel) rfl, tb_in 36 (by decide +kernel) rfl, by decide +kernel, by decide +kernel, by decide +kernel⟩, fun _ => ⟨tb_in 612 (by decide +kernel) rfl, tb_in 613 (by decide +kernel) rfl⟩, fun h => absurd h (by show ¬ 0 = 1; decide), fun h => absurd h (by show ¬ 0 = 2; decide), fun h => absurd h (by show ¬ 0 = 4; decide), fun h => absurd h (by show ¬ 0 = 5; decide)⟩
theorem okc_107 : pm_okC vwCl tb_R tb_T 8 48 (0, mX5_grade, 2) := ⟨fun h => absurd h (by show ¬ 0 = 3; decide), fun _ => ⟨okm_X5_grade, tb_in 615 (by decide +kernel) rfl, tb_in 36 (by decide +kernel) rfl, by decide +kernel, by decide +kernel, by decide +kernel⟩, fun _ => ⟨tb_in 616 (by decide +kernel) rfl, tb_in 617 (by decide +kernel) rfl⟩, fun h => absurd h (by show ¬ 0 = 1; decide), fun h => absurd h (by show ¬ 0 = 2; decide), fun h => absurd h (by show ¬ 0 = 4; decide), fun h => absurd h (by show ¬ 0 = 5; decide)⟩
theorem okc_108 : pm_okC vwCl tb_R tb_T 5 66 (0, mX5_price, 1) := ⟨fun h => absurd h (by show ¬ 0 = 3; decide), fun _ => ⟨okm_X5_price, tb_in 619 (by decide +kernel) rfl, tb_in 36 (by decide +kernel) rfl, by decide +kernel, by decide +kernel, by decide +kernel⟩, fun _ => ⟨tb_in 621 (by decide +kernel) rfl, tb_in 10 (by decide +kernel) rfl⟩, fun h => absurd h (by show ¬ 0 = 1; decide), fun h => absurd h (by show ¬ 0 = 2; decide), fun h => absurd h (by show ¬ 0 = 4; decide), fun h => absurd h (by show ¬ 0 = 5; decide)⟩
theorem okc_109 : pm_okC vwCl tb_R tb_T 5 63 (0, mX5_priceBy, 2) := ⟨fun h => absurd h (by show ¬ 0 = 3; decide), fun _ => ⟨okm_X5_priceBy, tb_in 623 (by decide +kernel) rfl, tb_in 36 (by decide +kernel) rfl, by decide +kernel, by decide +kernel, by decide +kernel⟩, fun _ => ⟨tb_in 625 (by decide +kernel) rfl, tb_in 11 (by decide +kernel) rfl⟩, fun h => absurd h (by show ¬ 0 = 1; decide), fun h => absurd h (by show ¬ 0 = 2; decide), fun h => absurd h (by show ¬ 0 = 4; decide), fun h => absurd h (by show ¬ 0 = 5; decide)⟩
theorem okc_110 : pm_okC vwCl tb_R tb_T 8 52 (0, mX5_refuse, 1) := ⟨fun h => absurd h (by show ¬ 0 = 3; decide), fun _ => ⟨okm_X5_refuse, tb_in 627 (by decide +kernel) rfl, tb_in 36 (by decide +kernel) rfl, by decide +kernel, by decide +kernel, by decide +kernel⟩, fun _ => ⟨tb_in 628 (by decide +kernel) rfl, tb_in 629 (by decide +kernel) rfl⟩, fun h => absurd h (by show ¬ 0 = 1; decide), fun h => absurd h (by show ¬ 0 = 2; decide), fun h => absurd h (by show ¬ 0 = 4; decide), fun h => absurd h (by show ¬ 0 = 5; decide)⟩
theorem okc_111 : pm_okC vwCl tb_R tb_T 5 69 (0, mX5_isOpen, 1) := ⟨fun h => absurd h (by show ¬ 0 = 3; decide), fun _ => ⟨okm_X5_isOpen, tb_in 631 (by decide +kernel) rfl, tb_in 36 (by decide +kernel) rfl, by decide +kernel, by decide +kernel, by decide +kernel⟩, fun _ => ⟨tb_in 633 (by decide +kernel) rfl, tb_in 12 (by decide +kernel) rfl⟩, fun h => absurd h (by show ¬ 0 = 1; decide), fun h => absurd h (by show ¬ 0 = 2; decide), fun h => absurd h (by show ¬ 0 = 4; decide), fun h => absurd h (by show ¬ 0 = 5; decide)⟩
theorem okc_112 : pm_okC vwCl tb_R tb_T 5 72 (0, mX5_unfolds, 1) := ⟨fun h => absurd h (by show ¬ 0 = 3; decide), fun _ => ⟨okm_X5_unfolds, tb_in 635 (by decide +kernel) rfl, tb_in 36 (by decide +kernel) rfl, by decide +kernel, by decide +kernel, by decide +kernel⟩, fun _ => ⟨tb_in 637 (by decide +kernel) rfl, tb_in 13 (by decide +kernel) rfl⟩, fun h => absurd h (by show ¬ 0 = 1; decide), fun h => absurd h (by show ¬ 0 = 2; decide), fun h => absurd h (by show ¬ 0 = 4; decide), fun h => absurd h (by show ¬ 0 = 5; decide)⟩
theorem okc_113 : pm_okC vwCl tb_R tb_T 8 56 (0, mX5_appeal, 2) := ⟨fun h => absurd h (by show ¬ 0 = 3; decide), fun _ => ⟨okm_X5_appeal, tb_in 639 (by decide +kernel) rfl, tb_in 36 (by decide +kernel) rfl, by decide +kernel, by decide +kernel, by decide +kernel⟩, fun _ => ⟨tb_in 640 (by decide +kernel) rfl, tb_in 641 (by decide +kernel) rfl⟩, fun h => absurd h (by show ¬ 0 = 1; decide), fun h => absurd h (by show ¬ 0 = 2; decide), fun h => absurd h (by show ¬ 0 = 4; decide), fun h => absurd h (by show ¬ 0 = 5; decide)⟩
theorem okc_114 : pm_okC vwCl tb_R tb_T 5 75 (0, mX5_isDue, 1) := ⟨fun h => absurd h (by show ¬ 0 = 3; decide), fun _ => ⟨okm_X5_isDue, tb_in 643 (by decide +kernel) rfl, tb_in 36 (by decide +kernel) rfl, by decide +kernel, by decide +kernel, by decide +kernel⟩, fun _ => ⟨tb_in 645 (by decide +kernel) rfl, tb_in 14 (by decide +kernel) rfl⟩, fun h => absurd h (by show ¬ 0 = 1; decide), fun h => absurd h (by show ¬ 0 = 2; decide), fun h => absurd h (by show ¬ 0 = 4; decide), fun h => absurd h (by show ¬ 0 = 5; decide)⟩
theorem okc_115 : pm_okC vwCl tb_R tb_T 8 60 (0, mX5_decide, 2) := ⟨fun h => absurd h (by show ¬ 0 = 3; decide), fun _ => ⟨okm_X5_decide, tb_in 647 (by decide +kernel) rfl, tb_in 36 (by decide +kernel) rfl, by decide +kernel, by decide +kernel, by decide +kernel⟩, fun _ => ⟨tb_in 648 (by decide +kernel) rfl, tb_in 649 (by decide +kernel) rfl⟩, fun h => absurd h (by show ¬ 0 = 1; decide), fun h => absurd h (by show ¬ 0 = 2; decide), fun h => absurd h (by show ¬ 0 = 4; decide), fun h => absurd h (by show ¬ 0 = 5; decide)⟩
theorem okc_116 : pm_okC vwCl tb_R tb_T 5 78 (1, mX5_atHunter, 2) := ⟨fun h => absurd h (by show ¬ 1 = 3; decide), fun _ => ⟨okm_X5_atHunter, tb_in 651 (by decide +kernel) rfl, tb_in 36 (by decide +kernel) rfl, by decide +kernel, by decide +kernel, by decide +kernel⟩, fun h => absurd h (by show ¬ 1 = 0; decide), fun _ => tb_in 652 (by decide +kernel) rfl, fun h => absurd h (by show ¬ 1 = 2; decide), fun h => absurd h (by show ¬ 1 = 4; decide), fun h => absurd h (by show ¬ 1 = 5; decide)⟩
theorem okc_117 : pm_okC vwCl tb_R tb_T 8 64 (0, mX5_pay, 1) := ⟨fun h => absurd h (by show ¬ 0 = 3; decide), fun _ => ⟨okm_X5_pay, tb_in 654 (by decide +kernel) rfl, tb_in 36 (by decide +kernel) rfl, by decide +kernel, by decide +kernel, by decide +kernel⟩, fun _ => ⟨tb_in 655 (by decide +kernel) rfl, tb_in 656 (by decide +kernel) rfl⟩, fun h => absurd h (by show ¬ 0 = 1; decide), fun h => absurd h (by show ¬ 0 = 2; decide), fun h => absurd h (by show ¬ 0 = 4; decide), fun h => absurd h (by show ¬ 0 = 5; decide)⟩
theorem okc_118 : pm_okC vwCl tb_R tb_T 5 88 (0, mX5_pays, 1) := ⟨fun h => absurd h (by show ¬ 0 = 3; decide), fun _ => ⟨okm_X5_pays, tb_in 658 (by decide +kernel) rfl, tb_in 36 (by decide +kernel) rfl, by decide +kernel, by decide +kernel, by decide +kernel⟩, fun _ => ⟨tb_in 660 (by decide +kernel) rfl, tb_in 15 (by decide +kernel) rfl⟩, fun h => absurd h (by show ¬ 0 = 1; decide), fun h => absurd h (by show ¬ 0 = 2; decide), fun h => absurd h (by show ¬ 0 = 4; decide), fun h => absurd h (by show ¬ 0 = 5; decide)⟩
theorem okc_119 : pm_okC vwCl tb_R tb_T 5 81 (1, mX5_lesser, 2) := ⟨fun h => absurd h (by show ¬ 1 = 3; decide), fun _ => ⟨okm_X5_lesser, tb_in 662 (by decide +kernel) rfl, tb_in 36 (by decide +kernel) rfl, by decide +kernel, by decide +kernel, by decide +kernel⟩, fun h => absurd h (by show ¬ 1 = 0; decide), fun _ => tb_in 663 (by decide +kernel) rfl, fun h => absurd h (by show ¬ 1 = 2; decide), fun h => absurd h (by show ¬ 1 = 4; decide), fun h => absurd h (by show ¬ 1 = 5; decide)⟩
theorem okc_120 : pm_okC vwCl tb_R tb_T 5 84 (0, mX5_gives, 2) := ⟨fun h => absurd h (by show ¬ 0 = 3; decide), fun _ => ⟨okm_X5_gives, tb_in 665 (by decide +kernel) rfl, tb_in 36 (by decide +kernel) rfl, by decide +kernel, by decide +kernel, by decide +kernel⟩, fun _ => ⟨tb_in 667 (by decide +kernel) rfl, tb_in 16 (by decide +kernel) rfl⟩, fun h => absurd h (by show ¬ 0 = 1; decide), fun h => absurd h (by show ¬ 0 = 2; decide), fun h => absurd h (by show ¬ 0 = 4; decide), fun h => absurd h (by show ¬ 0 = 5; decide)⟩
theorem okc_121 : pm_okC vwCl tb_R tb_T 8 72 (0, mX5_pass, 1) := ⟨fun h => absurd h (by show ¬ 0 = 3; decide), fun _ => ⟨okm_X5_pass, tb_in 669 (by decide +kernel) rfl, tb_in 36 (by decide +kernel) rfl, by decide +kernel, by decide +kernel, by decide +kernel⟩, fun _ => ⟨tb_in 670 (by decide +kernel) rfl, tb_in 671 (by decide +kernel) rfl⟩, fun h => absurd h (by show ¬ 0 = 1; decide), fun h => absurd h (by show ¬ 0 = 2; decide), fun h => absurd h (by show ¬ 0 = 4; decide), fun h => absurd h (by show ¬ 0 = 5; decide)⟩
theorem okc_122 : pm_okC vwCl tb_R tb_T 5 91 (0, mX5_begins, 0) := ⟨fun h => absurd h (by show ¬ 0 = 3; decide), fun _ => ⟨okm_X5_begins, tb_in 673 (by decide +kernel) rfl, tb_in 36 (by decide +kernel) rfl, by decide +kernel, by decide +kernel, by decide +kernel⟩, fun _ => ⟨tb_in 675 (by decide +kernel) rfl, tb_in 17 (by decide +kernel) rfl⟩, fun h => absurd h (by show ¬ 0 = 1; decide), fun h => absurd h (by show ¬ 0 = 2; decide), fun h => absurd h (by show ¬ 0 = 4; decide), fun h => absurd h (by show ¬ 0 = 5; decide)⟩
theorem okc_123 : pm_okC vwCl tb_R tb_T 8 68 (0, mX5_retest, 3) := ⟨fun h => absurd h (by show ¬ 0 = 3; decide), fun _ => ⟨okm_X5_retest, tb_in 677 (by decide +kernel) rfl, tb_in 36 (by decide +kernel) rfl, by decide +kernel, by decide +kernel, by decide +kernel⟩, fun _ => ⟨tb_in 678 (by decide +kernel) rfl, tb_in 679 (by decide +kernel) rfl⟩, fun h => absurd h (by show ¬ 0 = 1; decide), fun h => absurd h (by show ¬ 0 = 2; decide), fun h => absurd h (by show ¬ 0 = 4; decide), fun h => absurd h (by show ¬ 0 = 5; decide)⟩
theorem okc_124 : pm_okC vwCl tb_R tb_T 5 98 (1, mX5_has, 2) := ⟨fun h => absurd h (by show ¬ 1 = 3; decide), fun _ => ⟨okm_X5_has, tb_in 681 (by decide +kernel) rfl, tb_in 36 (by decide +kernel) rfl, by decide +kernel, by decide +kernel, by decide +kernel⟩, fun h => absurd h (by show ¬ 1 = 0; decide), fun _ => tb_in 682 (by decide +kernel) rfl, fun h => absurd h (by show ¬ 1 = 2; decide), fun h => absurd h (by show ¬ 1 = 4; decide), fun h => absurd h (by show ¬ 1 = 5; decide)⟩
theorem okc_125 : pm_okC vwCl tb_R tb_T 5 102 (0, mX5_hasReported, 2) := ⟨fun h => absurd h (by show ¬ 0 = 3; decide), fun _ => ⟨okm_X5_hasReported, tb_in 684 (by decide +kernel) rfl, tb_in 36 (by decide +kernel) rfl, by decide +kernel, by decide +kernel, by decide +kernel⟩, fun _ => ⟨tb_in 686 (by decide +kernel) rfl, tb_in 18 (by decide +kernel) rfl⟩, fun h => absurd h (by show ¬ 0 = 1; decide), fun h => absurd h (by show ¬ 0 = 2; decide), fun h => absurd h (by show ¬ 0 = 4; decide), fun h => absurd h (by show ¬ 0 = 5; decide)⟩
theorem okc_126 : pm_okC vwCl tb_R tb_T 5 95 (1, mX5_ones, 1) := ⟨fun h => absurd h (by show ¬ 1 = 3; decide), fun _ => ⟨okm_X5_ones, tb_in 688 (by decide +kernel) rfl, tb_in 36 (by decide +kernel) rfl, by decide +kernel, by decide +kernel, by decide +kernel⟩, fun h => absurd h (by show ¬ 1 = 0; decide), fun _ => tb_in 689 (by decide +kernel) rfl, fun h => absurd h (by show ¬ 1 = 2; decide), fun h => absurd h (by show ¬ 1 = 4; decide), fun h => absurd h (by show ¬ 1 = 5; decide)⟩
theorem okc_127 : pm_okC vwCl tb_R tb_T 5 105 (0, mX5_givesBonuses, 1) := ⟨fun h => absurd h (by show ¬ 0 = 3; decide), fun _ => ⟨okm_X5_givesBonuses, tb_in 691 (by decide +kernel) rfl, tb_in 36 (by decide +kernel) rfl, by decide +kernel, by decide +kernel, by decide +kernel⟩, fun _ => ⟨tb_in 693 (by decide +kernel) rfl, tb_in 19 (by decide +kernel) rfl⟩, fun h => absurd h (by show ¬ 0 = 1; decide), fun h => absurd h (by show ¬ 0 = 2; decide), fun h => absurd h (by show ¬ 0 = 4; decide), fun h => absurd h (by show ¬ 0 = 5; decide)⟩
theorem okc_128 : pm_okC vwCl tb_R tb_T 5 109 (0, mX5_isNewAgain, 1) := ⟨fun h => absurd h (by show ¬ 0 = 3; decide), fun _ => ⟨okm_X5_isNewAgain, tb_in 695 (by decide +kernel) rfl, tb_in 36 (by decide +kernel) rfl, by decide +kernel, by decide +kernel, by decide +kernel⟩, fun _ => ⟨tb_in 697 (by decide +kernel) rfl, tb_in 20 (by decide +kernel) rfl⟩, fun h => absurd h (by show ¬ 0 = 1; decide), fun h => absurd h (by show ¬ 0 = 2; decide), fun h => absurd h (by show ¬ 0 = 4; decide), fun h => absurd h (by show ¬ 0 = 5; decide)⟩
theorem okc_129 : pm_okC vwCl tb_R tb_T 8 80 (0, mX5_count, 1) := ⟨fun h => absurd h (by show ¬ 0 = 3; decide), fun _ => ⟨okm_X5_count, tb_in 699 (by decide +kernel) rfl, tb_in 36 (by decide +kernel) rfl, by decide +kernel, by decide +kernel, by decide +kernel⟩, fun _ => ⟨tb_in 700 (by decide +kernel) rfl, tb_in 701 (by decide +kernel) rfl⟩, fun h => absurd h (by show ¬ 0 = 1; decide), fun h => absurd h (by show ¬ 0 = 2; decide), fun h => absurd h (by show ¬ 0 = 4; decide), fun h => absurd h (by show ¬ 0 = 5; decide)⟩
theorem okc_130 : pm_okC vwCl tb_R tb_T 5 112 (0, mX5_pools, 0) := ⟨fun h => absurd h (by show ¬ 0 = 3; decide), fun _ => ⟨okm_X5_pools, tb_in 703 (by decide +kernel) rfl, tb_in 36 (by decide +kernel) rfl, by decide +kernel, by decide +kernel, by decide +kernel⟩, fun _ => ⟨tb_in 705 (by decide +kernel) rfl, tb_in 21 (by decide +kernel) rfl⟩, fun h => absurd h (by show ¬ 0 = 1; decide), fun h => absurd h (by show ¬ 0 = 2; decide), fun h => absurd h (by show ¬ 0 = 4; decide), fun h => absurd h (by show ¬ 0 = 5; decide)⟩
theorem okc_131 : pm_okC vwCl tb_R tb_T 5 115 (0, mX5_openOnes, 0) := ⟨fun h => absurd h (by show ¬ 0 = 3; decide), fun _ => ⟨okm_X5_openOnes, tb_in 707 (by decide +kernel) rfl, tb_in 36 (by decide +kernel) rfl, by decide +kernel, by decide +kernel, by decide +kernel⟩, fun _ => ⟨tb_in 709 (by decide +kernel) rfl, tb_in 22 (by decide +kernel) rfl⟩, fun h => absurd h (by show ¬ 0 = 1; decide), fun h => absurd h (by show ¬ 0 = 2; decide), fun h => absurd h (by show ¬ 0 = 4; decide), fun h => absurd h (by show ¬ 0 = 5; decide)⟩
theorem okc_132 : pm_okC vwCl tb_R tb_T 5 118 (0, mX5_inState, 1) := ⟨fun h => absurd h (by show ¬ 0 = 3; decide), fun _ => ⟨okm_X5_inState, tb_in 711 (by decide +kernel) rfl, tb_in 36 (by decide +kernel) rfl, by decide +kernel, by decide +kernel, by decide +kernel⟩, fun _ => ⟨tb_in 713 (by decide +kernel) rfl, tb_in 23 (by decide +kernel) rfl⟩, fun h => absurd h (by show ¬ 0 = 1; decide), fun h => absurd h (by show ¬ 0 = 2; decide), fun h => absurd h (by show ¬ 0 = 4; decide), fun h => absurd h (by show ¬ 0 = 5; decide)⟩
theorem okc_133 : pm_okC vwCl tb_R tb_T 8 84 (0, mX5_asset, 2) := ⟨fun h => absurd h (by show ¬ 0 = 3; decide), fun _ => ⟨okm_X5_asset, tb_in 715 (by decide +kernel) rfl, tb_in 36 (by decide +kernel) rfl, by decide +kernel, by decide +kernel, by decide +kernel⟩, fun _ => ⟨tb_in 716 (by decide +kernel) rfl, tb_in 717 (by decide +kernel) rfl⟩, fun h => absurd h (by show ¬ 0 = 1; decide), fun h => absurd h (by show ¬ 0 = 2; decide), fun h => absurd h (by show ¬ 0 = 4; decide), fun h => absurd h (by show ¬ 0 = 5; decide)⟩
theorem okc_134 : pm_okC vwCl tb_R tb_T 5 121 (0, mX5_reportsFor, 1) := ⟨fun h => absurd h (by show ¬ 0 = 3; decide), fun _ => ⟨okm_X5_reportsFor, tb_in 719 (by decide +kernel) rfl, tb_in 36 (by decide +kernel) rfl, by decide +kernel, by decide +kernel, by decide +kernel⟩, fun _ => ⟨tb_in 721 (by decide +kernel) rfl, tb_in 24 (by decide +kernel) rfl⟩, fun h => absurd h (by show ¬ 0 = 1; decide), fun h => absurd h (by show ¬ 0 = 2; decide), fun h => absurd h (by show ¬ 0 = 4; decide), fun h => absurd h (by show ¬ 0 = 5; decide)⟩
theorem okc_135 : pm_okC vwCl tb_R tb_T 5 124 (0, mX5_pricesFor, 1) := ⟨fun h => absurd h (by show ¬ 0 = 3; decide), fun _ => ⟨okm_X5_pricesFor, tb_in 723 (by decide +kernel) rfl, tb_in 36 (by decide +kernel) rfl, by decide +kernel, by decide +kernel, by decide +kernel⟩, fun _ => ⟨tb_in 725 (by decide +kernel) rfl, tb_in 25 (by decide +kernel) rfl⟩, fun h => absurd h (by show ¬ 0 = 1; decide), fun h => absurd h (by show ¬ 0 = 2; decide), fun h => absurd h (by show ¬ 0 = 4; decide), fun h => absurd h (by show ¬ 0 = 5; decide)⟩
theorem okc_136 : pm_okC vwCl tb_R tb_T 8 88 (0, mX5_hunter, 2) := ⟨fun h => absurd h (by show ¬ 0 = 3; decide), fun _ => ⟨okm_X5_hunter, tb_in 727 (by decide +kernel) rfl, tb_in 36 (by decide +kernel) rfl, by decide +kernel, by decide +kernel, by decide +kernel⟩, fun _ => ⟨tb_in 728 (by decide +kernel) rfl, tb_in 729 (by decide +kernel) rfl⟩, fun h => absurd h (by show ¬ 0 = 1; decide), fun h => absurd h (by show ¬ 0 = 2; decide), fun h => absurd h (by show ¬ 0 = 4; decide), fun h => absurd h (by show ¬ 0 = 5; decide)⟩
theorem okc_137 : pm_okC vwCl tb_R tb_T 5 127 (0, mX5_reportsBy, 1) := ⟨fun h => absurd h (by show ¬ 0 = 3; decide), fun _ => ⟨okm_X5_reportsBy, tb_in 731 (by decide +kernel) rfl, tb_in 36 (by decide +kernel) rfl, by decide +kernel, by decide +kernel, by decide +kernel⟩, fun _ => ⟨tb_in 733 (by decide +kernel) rfl, tb_in 26 (by decide +kernel) rfl⟩, fun h => absurd h (by show ¬ 0 = 1; decide), fun h => absurd h (by show ¬ 0 = 2; decide), fun h => absurd h (by show ¬ 0 = 4; decide), fun h => absurd h (by show ¬ 0 = 5; decide)⟩
theorem okc_138 : pm_okC vwCl tb_R tb_T 5 130 (0, mX5_standing, 1) := ⟨fun h => absurd h (by show ¬ 0 = 3; decide), fun _ => ⟨okm_X5_standing, tb_in 735 (by decide +kernel) rfl, tb_in 36 (by decide +kernel) rfl, by decide +kernel, by decide +kernel, by decide +kernel⟩, fun _ => ⟨tb_in 737 (by decide +kernel) rfl, tb_in 27 (by decide +kernel) rfl⟩, fun h => absurd h (by show ¬ 0 = 1; decide), fun h => absurd h (by show ¬ 0 = 2; decide), fun h => absurd h (by show ¬ 0 = 4; decide), fun h => absurd h (by show ¬ 0 = 5; decide)⟩
theorem okc_139 : pm_okC vwCl tb_R tb_T 8 92 (0, mX5_reportOf, 2) := ⟨fun h => absurd h (by show ¬ 0 = 3; decide), fun _ => ⟨okm_X5_reportOf, tb_in 739 (by decide +kernel) rfl, tb_in 36 (by decide +kernel) rfl, by decide +kernel, by decide +kernel, by decide +kernel⟩, fun _ => ⟨tb_in 740 (by decide +kernel) rfl, tb_in 741 (by decide +kernel) rfl⟩, fun h => absurd h (by show ¬ 0 = 1; decide), fun h => absurd h (by show ¬ 0 = 2; decide), fun h => absurd h (by show ¬ 0 = 4; decide), fun h => absurd h (by show ¬ 0 = 5; decide)⟩
theorem okc_140 : pm_okC vwCl tb_R tb_T 5 133 (0, mX5_foldedInto, 1) := ⟨fun h => absurd h (by show ¬ 0 = 3; decide), fun _ => ⟨okm_X5_foldedInto, tb_in 743 (by decide +kernel) rfl, tb_in 36 (by decide +kernel) rfl, by decide +kernel, by decide +kernel, by decide +kernel⟩, fun _ => ⟨tb_in 745 (by decide +kernel) rfl, tb_in 28 (by decide +kernel) rfl⟩, fun h => absurd h (by show ¬ 0 = 1; decide), fun h => absurd h (by show ¬ 0 = 2; decide), fun h => absurd h (by show ¬ 0 = 4; decide), fun h => absurd h (by show ¬ 0 = 5; decide)⟩
theorem okc_141 : pm_okC vwCl tb_R tb_T 8 100 (0, mX5_lack, 0) := ⟨fun h => absurd h (by show ¬ 0 = 3; decide), fun _ => ⟨okm_X5_lack, tb_in 747 (by decide +kernel) rfl, tb_in 36 (by decide +kernel) rfl, by decide +kernel, by decide +kernel, by decide +kernel⟩, fun _ => ⟨tb_in 748 (by decide +kernel) rfl, tb_in 749 (by decide +kernel) rfl⟩, fun h => absurd h (by show ¬ 0 = 1; decide), fun h => absurd h (by show ¬ 0 = 2; decide), fun h => absurd h (by show ¬ 0 = 4; decide), fun h => absurd h (by show ¬ 0 = 5; decide)⟩
theorem okc_142 : pm_okC vwCl tb_R tb_T 8 104 (0, mX5_best, 1) := ⟨fun h => absurd h (by show ¬ 0 = 3; decide), fun _ => ⟨okm_X5_best, tb_in 751 (by decide +kernel) rfl, tb_in 36 (by decide +kernel) rfl, by decide +kernel, by decide +kernel, by decide +kernel⟩, fun _ => ⟨tb_in 752 (by decide +kernel) rfl, tb_in 753 (by decide +kernel) rfl⟩, fun h => absurd h (by show ¬ 0 = 1; decide), fun h => absurd h (by show ¬ 0 = 2; decide), fun h => absurd h (by show ¬ 0 = 4; decide), fun h => absurd h (by show ¬ 0 = 5; decide)⟩
theorem okc_143 : pm_okC vwCl tb_R tb_T 5 136 (0, mX5_isAhead, 2) := ⟨fun h => absurd h (by show ¬ 0 = 3; decide), fun _ => ⟨okm_X5_isAhead, tb_in 755 (by decide +kernel) rfl, tb_in 36 (by decide +kernel) rfl, by decide +kernel, by decide +kernel, by decide +kernel⟩, fun _ => ⟨tb_in 757 (by decide +kernel) rfl, tb_in 29 (by decide +kernel) rfl⟩, fun h => absurd h (by show ¬ 0 = 1; decide), fun h => absurd h (by show ¬ 0 = 2; decide), fun h => absurd h (by show ¬ 0 = 4; decide), fun h => absurd h (by show ¬ 0 = 5; decide)⟩
theorem okc_144 : pm_okC vwCl tb_R tb_T 8 108 (0, mX5_paidIn, 1) := ⟨fun h => absurd h (by show ¬ 0 = 3; decide), fun _ => ⟨okm_X5_paidIn, tb_in 759 (by decide +kernel) rfl, tb_in 36 (by decide +kernel) rfl, by decide +kernel, by decide +kernel, by decide +kernel⟩, fun _ => ⟨tb_in 760 (by decide +kernel) rfl, tb_in 761 (by decide +kernel) rfl⟩, fun h => absurd h (by show ¬ 0 = 1; decide), fun h => absurd h (by show ¬ 0 = 2; decide), fun h => absurd h (by show ¬ 0 = 4; decide), fun h => absurd h (by show ¬ 0 = 5; decide)⟩
theorem okk_0 : pm_okK tb tb_R tb_T 0 (RX0, TX0, 3) := by
  refine ⟨rfl, fun w hw => ?_, nmX0, tyX0, tyX0_ok, fun j hj => ?_⟩
  · obtain ⟨k, hk, rfl⟩ := List.mem_map.mp hw
    have hk := List.mem_range.mp hk
    match k, hk with
    | 0, _ => exact tb_in 69 (by decide +kernel) rfl
    | 1, _ => exact tb_in 71 (by decide +kernel) rfl
    | 2, _ => exact tb_in 73 (by decide +kernel) rfl
    | k + 3, hk => exact absurd hk (Nat.not_lt.mpr (Nat.le_add_left 3 _))
  · match j, hj with
    | 0, _ => exact Or.inl ⟨rfl, rfl, rfl⟩
    | 1, _ => exact Or.inl ⟨rfl, rfl, rfl⟩
    | 2, _ => exact Or.inl ⟨rfl, rfl, rfl⟩
    | k + 3, hk => exact absurd hk (Nat.not_lt.mpr (Nat.le_add_left 3 _))
theorem okk_1 : pm_okK tb tb_R tb_T 1 (RX1, TX1, 12) := by
  refine ⟨rfl, fun w hw => ?_, nmX1, tyX1, tyX1_ok, fun j hj => ?_⟩
  · obtain ⟨k, hk, rfl⟩ := List.mem_map.mp hw
    have hk := List.mem_range.mp hk
    match k, hk with
    | 0, _ => exact tb_in 195 (by decide +kernel) rfl
    | 1, _ => exact tb_in 197 (by decide +kernel) rfl
    | 2, _ => exact tb_in 199 (by decide +kernel) rfl
    | 3, _ => exact tb_in 201 (by decide +kernel) rfl
    | 4, _ => exact tb_in 203 (by decide +kernel) rfl
    | 5, _ => exact tb_in 205 (by decide +kernel) rfl
    | 6, _ => exact tb_in 207 (by decide +kernel) rfl
    | 7, _ => exact tb_in 209 (by decide +kernel) rfl
    | 8, _ => exact tb_in 211 (by decide +kernel) rfl
    | 9, _ => exact tb_in 213 (by decide +kernel) rfl
    | 10, _ => exact tb_in 215 (by decide +kernel) rfl
    | 11, _ => exact tb_in 217 (by decide +kernel) rfl
    | k + 12, hk => exact absurd hk (Nat.not_lt.mpr (Nat.le_add_left 12 _))
  · match j, hj with
    | 0, _ => exact Or.inr (Or.inr ⟨rfl, Or.inr ⟨_, rfl⟩, rfl, rfl⟩)
    | 1, _ => exact Or.inr (Or.inr ⟨rfl, Or.inr ⟨_, rfl⟩, rfl, rfl⟩)
    | 2, _ => exact Or.inr (Or.inr ⟨rfl, Or.inr ⟨_, rfl⟩, rfl, rfl⟩)
    | 3, _ => exact Or.inl ⟨rfl, rfl, rfl⟩
    | 4, _ => exact Or.inl ⟨rfl, rfl, rfl⟩
    | 5, _ => exact Or.inl ⟨rfl, rfl, rfl⟩
    | 6, _ => exact Or.inl ⟨rfl, rfl, rfl⟩
    | 7, _ => exact Or.inl ⟨rfl, rfl, rfl⟩
    | 8, _ => exact Or.inl ⟨rfl, rfl, rfl⟩
    | 9, _ => exact Or.inl ⟨rfl, rfl, rfl⟩
    | 10, _ => exact Or.inl ⟨rfl, rfl, rfl⟩
    | 11, _ => exact Or.inl ⟨rfl, rfl, rfl⟩
    | k + 12, hk => exact absurd hk (Nat.not_lt.mpr (Nat.le_add_left 12 _))
theorem okk_2 : pm_okK tb tb_R tb_T 2 (RX2, TX2, 4) := by
  refine ⟨rfl, fun w hw => ?_, nmX2, tyX2, tyX2_ok, fun j hj => ?_⟩
  · obtain ⟨k, hk, rfl⟩ := List.mem_map.mp hw
    have hk := List.mem_range.mp hk
    match k, hk with
    | 0, _ => exact tb_in 95 (by decide +kernel) rfl
    | 1, _ => exact tb_in 97 (by decide +kernel) rfl
    | 2, _ => exact tb_in 99 (by decide +kernel) rfl
    | 3, _ => exact tb_in 101 (by decide +kernel) rfl
    | k + 4, hk => exact absurd hk (Nat.not_lt.mpr (Nat.le_add_left 4 _))
  · match j, hj with
    | 0, _ => exact Or.inl ⟨rfl, rfl, rfl⟩
    | 1, _ => exact Or.inl ⟨rfl, rfl, rfl⟩
    | 2, _ => exact Or.inl ⟨rfl, rfl, rfl⟩
    | 3, _ => exact Or.inl ⟨rfl, rfl, rfl⟩
    | k + 4, hk => exact absurd hk (Nat.not_lt.mpr (Nat.le_add_left 4 _))
theorem okk_3 : pm_okK tb tb_R tb_T 3 (RX3, TX3, 12) := by
  refine ⟨rfl, fun w hw => ?_, nmX3, tyX3, tyX3_ok, fun j hj => ?_⟩
  · obtain ⟨k, hk, rfl⟩ := List.mem_map.mp hw
    have hk := List.mem_range.mp hk
    match k, hk with
    | 0, _ => exact tb_in 146 (by decide +kernel) rfl
    | 1, _ => exact tb_in 148 (by decide +kernel) rfl
    | 2, _ => exact tb_in 150 (by decide +kernel) rfl
    | 3, _ => exact tb_in 152 (by decide +kernel) rfl
    | 4, _ => exact tb_in 154 (by decide +kernel) rfl
    | 5, _ => exact tb_in 156 (by decide +kernel) rfl
    | 6, _ => exact tb_in 158 (by decide +kernel) rfl
    | 7, _ => exact tb_in 160 (by decide +kernel) rfl
    | 8, _ => exact tb_in 162 (by decide +kernel) rfl
    | 9, _ => exact tb_in 164 (by decide +kernel) rfl
    | 10, _ => exact tb_in 166 (by decide +kernel) rfl
    | 11, _ => exact tb_in 168 (by decide +kernel) rfl
    | k + 12, hk => exact absurd hk (Nat.not_lt.mpr (Nat.le_add_left 12 _))
  · match j, hj with
    | 0, _ => exact Or.inl ⟨rfl, rfl, rfl⟩
    | 1, _ => exact Or.inl ⟨rfl, rfl, rfl⟩
    | 2, _ => exact Or.inl ⟨rfl, rfl, rfl⟩
    | 3, _ => exact Or.inl ⟨rfl, rfl, rfl⟩
    | 4, _ => exact Or.inl ⟨rfl, rfl, rfl⟩
    | 5, _ => exact Or.inl ⟨rfl, rfl, rfl⟩
    | 6, _ => exact Or.inl ⟨rfl, rfl, rfl⟩
    | 7, _ => exact Or.inl ⟨rfl, rfl, rfl⟩
    | 8, _ => exact Or.inl ⟨rfl, rfl, rfl⟩
    | 9, _ => exact Or.inl ⟨rfl, rfl, rfl⟩
    | 10, _ => exact Or.inl ⟨rfl, rfl, rfl⟩
    | 11, _ => exact Or.inr (Or.inl ⟨rfl, rfl, rfl⟩)
    | k + 12, hk => exact absurd hk (Nat.not_lt.mpr (Nat.le_add_left 12 _))
theorem okk_4 : pm_okK tb tb_R tb_T 4 (RX4, TX4, 6) := by
  refine ⟨rfl, fun w hw => ?_, nmX4, tyX4, tyX4_ok, fun j hj => ?_⟩
  · obtain ⟨k, hk, rfl⟩ := List.mem_map.mp hw
    have hk := List.mem_range.mp hk
    match k, hk with
    | 0, _ => exact tb_in 227 (by decide +kernel) rfl
    | 1, _ => exact tb_in 229 (by decide +kernel) rfl
    | 2, _ => exact tb_in 231 (by decide +kernel) rfl
    | 3, _ => exact tb_in 233 (by decide +kernel) rfl
    | 4, _ => exact tb_in 235 (by decide +kernel) rfl
    | 5, _ => exact tb_in 237 (by decide +kernel) rfl
    | k + 6, hk => exact absurd hk (Nat.not_lt.mpr (Nat.le_add_left 6 _))
  · match j, hj with
    | 0, _ => exact Or.inr (Or.inr ⟨rfl, Or.inl ⟨_, rfl⟩, rfl, rfl⟩)
    | 1, _ => exact Or.inr (Or.inr ⟨rfl, Or.inl ⟨_, rfl⟩, rfl, rfl⟩)
    | 2, _ => exact Or.inr (Or.inr ⟨rfl, Or.inr ⟨_, rfl⟩, rfl, rfl⟩)
    | 3, _ => exact Or.inr (Or.inr ⟨rfl, Or.inr ⟨_, rfl⟩, rfl, rfl⟩)
    | 4, _ => exact Or.inl ⟨rfl, rfl, rfl⟩
    | 5, _ => exact Or.inl ⟨rfl, rfl, rfl⟩
    | k + 6, hk => exact absurd hk (Nat.not_lt.mpr (Nat.le_add_left 6 _))
theorem okk_5 : pm_okK tb tb_R tb_T 5 (RX5, TX5, 5) := by
  refine ⟨rfl, fun w hw => ?_, nmX5, tyX5, tyX5_ok, fun j hj => ?_⟩
  · obtain ⟨k, hk, rfl⟩ := List.mem_map.mp hw
    have hk := List.mem_range.mp hk
    match k, hk with
    | 0, _ => exact tb_in 529 (by decide +kernel) rfl
    | 1, _ => exact tb_in 531 (by decide +kernel) rfl
    | 2, _ => exact tb_in 533 (by decide +kernel) rfl
    | 3, _ => exact tb_in 535 (by decide +kernel) rfl
    | 4, _ => exact tb_in 537 (by decide +kernel) rfl
    | k + 5, hk => exact absurd hk (Nat.not_lt.mpr (Nat.le_add_left 5 _))
  · match j, hj with
    | 0, _ => exact Or.inr (Or.inr ⟨rfl, Or.inr ⟨_, rfl⟩, rfl, rfl⟩)
    | 1, _ => exact Or.inr (Or.inr ⟨rfl, Or.inr ⟨_, rfl⟩, rfl, rfl⟩)
    | 2, _ => exact Or.inr (Or.inr ⟨rfl, Or.inr ⟨_, rfl⟩, rfl, rfl⟩)
    | 3, _ => exact Or.inl ⟨rfl, rfl, rfl⟩
    | 4, _ => exact Or.inr (Or.inr ⟨rfl, Or.inr ⟨_, rfl⟩, rfl, rfl⟩)
    | k + 5, hk => exact absurd hk (Nat.not_lt.mpr (Nat.le_add_left 5 _))
theorem okf_0 : ∃ q : vw_C, vwCl[0]? = some q ∧ 0 < q.2.2 ∧ Jvm.Cond.fieldLink (tb_R 0) 7 (q.2.1 0).1 (q.2.1 0).2.1 (q.2.1 0).2.2.1 ∈ tb_T := ⟨(RX0, TX0, 3), rfl, by show 0 < 3; decide, tb_in 60 (by decide +kernel) rfl⟩
theorem okf_1 : ∃ q : vw_C, vwCl[0]? = some q ∧ 0 < q.2.2 ∧ Jvm.Cond.fieldLink (tb_R 1) 70 (q.2.1 0).1 (q.2.1 0).2.1 (q.2.1 0).2.2.1 ∈ tb_T := ⟨(RX0, TX0, 3), rfl, by show 0 < 3; decide, tb_in 61 (by decide +kernel) rfl⟩
theorem okf_2 : ∃ q : vw_C, vwCl[0]? = some q ∧ 0 < q.2.2 ∧ Jvm.Cond.fieldLink (tb_R 4) 173 (q.2.1 0).1 (q.2.1 0).2.1 (q.2.1 0).2.2.1 ∈ tb_T := ⟨(RX0, TX0, 3), rfl, by show 0 < 3; decide, tb_in 62 (by decide +kernel) rfl⟩
theorem okf_3 : ∃ q : vw_C, vwCl[0]? = some q ∧ 1 < q.2.2 ∧ Jvm.Cond.fieldLink (tb_R 0) 13 (q.2.1 1).1 (q.2.1 1).2.1 (q.2.1 1).2.2.1 ∈ tb_T := ⟨(RX0, TX0, 3), rfl, by show 1 < 3; decide, tb_in 63 (by decide +kernel) rfl⟩
theorem okf_4 : ∃ q : vw_C, vwCl[0]? = some q ∧ 1 < q.2.2 ∧ Jvm.Cond.fieldLink (tb_R 1) 73 (q.2.1 1).1 (q.2.1 1).2.1 (q.2.1 1).2.2.1 ∈ tb_T := ⟨(RX0, TX0, 3), rfl, by show 1 < 3; decide, tb_in 64 (by decide +kernel) rfl⟩
theorem okf_5 : ∃ q : vw_C, vwCl[0]? = some q ∧ 1 < q.2.2 ∧ Jvm.Cond.fieldLink (tb_R 4) 178 (q.2.1 1).1 (q.2.1 1).2.1 (q.2.1 1).2.2.1 ∈ tb_T := ⟨(RX0, TX0, 3), rfl, by show 1 < 3; decide, tb_in 65 (by decide +kernel) rfl⟩
theorem okf_6 : ∃ q : vw_C, vwCl[0]? = some q ∧ 2 < q.2.2 ∧ Jvm.Cond.fieldLink (tb_R 0) 16 (q.2.1 2).1 (q.2.1 2).2.1 (q.2.1 2).2.2.1 ∈ tb_T := ⟨(RX0, TX0, 3), rfl, by show 2 < 3; decide, tb_in 66 (by decide +kernel) rfl⟩
theorem okf_7 : ∃ q : vw_C, vwCl[0]? = some q ∧ 2 < q.2.2 ∧ Jvm.Cond.fieldLink (tb_R 1) 76 (q.2.1 2).1 (q.2.1 2).2.1 (q.2.1 2).2.2.1 ∈ tb_T := ⟨(RX0, TX0, 3), rfl, by show 2 < 3; decide, tb_in 67 (by decide +kernel) rfl⟩
theorem okf_8 : ∃ q : vw_C, vwCl[0]? = some q ∧ 2 < q.2.2 ∧ Jvm.Cond.fieldLink (tb_R 4) 181 (q.2.1 2).1 (q.2.1 2).2.1 (q.2.1 2).2.2.1 ∈ tb_T := ⟨(RX0, TX0, 3), rfl, by show 2 < 3; decide, tb_in 68 (by decide +kernel) rfl⟩
theorem okf_9 : ∃ q : vw_C, vwCl[2]? = some q ∧ 0 < q.2.2 ∧ Jvm.Cond.fieldLink (tb_R 2) 7 (q.2.1 0).1 (q.2.1 0).2.1 (q.2.1 0).2.2.1 ∈ tb_T := ⟨(RX2, TX2, 4), rfl, by show 0 < 4; decide, tb_in 83 (by decide +kernel) rfl⟩
theorem okf_10 : ∃ q : vw_C, vwCl[2]? = some q ∧ 0 < q.2.2 ∧ Jvm.Cond.fieldLink (tb_R 1) 141 (q.2.1 0).1 (q.2.1 0).2.1 (q.2.1 0).2.2.1 ∈ tb_T := ⟨(RX2, TX2, 4), rfl, by show 0 < 4; decide, tb_in 84 (by decide +kernel) rfl⟩
theorem okf_11 : ∃ q : vw_C, vwCl[2]? = some q ∧ 0 < q.2.2 ∧ Jvm.Cond.fieldLink (tb_R 4) 197 (q.2.1 0).1 (q.2.1 0).2.1 (q.2.1 0).2.2.1 ∈ tb_T := ⟨(RX2, TX2, 4), rfl, by show 0 < 4; decide, tb_in 85 (by decide +kernel) rfl⟩
theorem okf_12 : ∃ q : vw_C, vwCl[2]? = some q ∧ 1 < q.2.2 ∧ Jvm.Cond.fieldLink (tb_R 2) 13 (q.2.1 1).1 (q.2.1 1).2.1 (q.2.1 1).2.2.1 ∈ tb_T := ⟨(RX2, TX2, 4), rfl, by show 1 < 4; decide, tb_in 86 (by decide +kernel) rfl⟩
theorem okf_13 : ∃ q : vw_C, vwCl[2]? = some q ∧ 1 < q.2.2 ∧ Jvm.Cond.fieldLink (tb_R 1) 118 (q.2.1 1).1 (q.2.1 1).2.1 (q.2.1 1).2.2.1 ∈ tb_T := ⟨(RX2, TX2, 4), rfl, by show 1 < 4; decide, tb_in 87 (by decide +kernel) rfl⟩
theorem okf_14 : ∃ q : vw_C, vwCl[2]? = some q ∧ 1 < q.2.2 ∧ Jvm.Cond.fieldLink (tb_R 4) 205 (q.2.1 1).1 (q.2.1 1).2.1 (q.2.1 1).2.2.1 ∈ tb_T := ⟨(RX2, TX2, 4), rfl, by show 1 < 4; decide, tb_in 88 (by decide +kernel) rfl⟩
theorem okf_15 : ∃ q : vw_C, vwCl[2]? = some q ∧ 2 < q.2.2 ∧ Jvm.Cond.fieldLink (tb_R 2) 16 (q.2.1 2).1 (q.2.1 2).2.1 (q.2.1 2).2.2.1 ∈ tb_T := ⟨(RX2, TX2, 4), rfl, by show 2 < 4; decide, tb_in 89 (by decide +kernel) rfl⟩
theorem okf_16 : ∃ q : vw_C, vwCl[2]? = some q ∧ 2 < q.2.2 ∧ Jvm.Cond.fieldLink (tb_R 1) 121 (q.2.1 2).1 (q.2.1 2).2.1 (q.2.1 2).2.2.1 ∈ tb_T := ⟨(RX2, TX2, 4), rfl, by show 2 < 4; decide, tb_in 90 (by decide +kernel) rfl⟩
theorem okf_17 : ∃ q : vw_C, vwCl[2]? = some q ∧ 2 < q.2.2 ∧ Jvm.Cond.fieldLink (tb_R 4) 208 (q.2.1 2).1 (q.2.1 2).2.1 (q.2.1 2).2.2.1 ∈ tb_T := ⟨(RX2, TX2, 4), rfl, by show 2 < 4; decide, tb_in 91 (by decide +kernel) rfl⟩
theorem okf_18 : ∃ q : vw_C, vwCl[2]? = some q ∧ 3 < q.2.2 ∧ Jvm.Cond.fieldLink (tb_R 2) 19 (q.2.1 3).1 (q.2.1 3).2.1 (q.2.1 3).2.2.1 ∈ tb_T := ⟨(RX2, TX2, 4), rfl, by show 3 < 4; decide, tb_in 92 (by decide +kernel) rfl⟩
theorem okf_19 : ∃ q : vw_C, vwCl[2]? = some q ∧ 3 < q.2.2 ∧ Jvm.Cond.fieldLink (tb_R 1) 170 (q.2.1 3).1 (q.2.1 3).2.1 (q.2.1 3).2.2.1 ∈ tb_T := ⟨(RX2, TX2, 4), rfl, by show 3 < 4; decide, tb_in 93 (by decide +kernel) rfl⟩
theorem okf_20 : ∃ q : vw_C, vwCl[2]? = some q ∧ 3 < q.2.2 ∧ Jvm.Cond.fieldLink (tb_R 4) 211 (q.2.1 3).1 (q.2.1 3).2.1 (q.2.1 3).2.2.1 ∈ tb_T := ⟨(RX2, TX2, 4), rfl, by show 3 < 4; decide, tb_in 94 (by decide +kernel) rfl⟩
theorem okf_21 : ∃ q : vw_C, vwCl[3]? = some q ∧ 0 < q.2.2 ∧ Jvm.Cond.fieldLink (tb_R 3) 15 (q.2.1 0).1 (q.2.1 0).2.1 (q.2.1 0).2.2.1 ∈ tb_T := ⟨(RX3, TX3, 12), rfl, by show 0 < 12; decide, tb_in 111 (by decide +kernel) rfl⟩
theorem okf_22 : ∃ q : vw_C, vwCl[3]? = some q ∧ 0 < q.2.2 ∧ Jvm.Cond.fieldLink (tb_R 1) 115 (q.2.1 0).1 (q.2.1 0).2.1 (q.2.1 0).2.2.1 ∈ tb_T := ⟨(RX3, TX3, 12), rfl, by show 0 < 12; decide, tb_in 112 (by decide +kernel) rfl⟩
theorem okf_23 : ∃ q : vw_C, vwCl[3]? = some q ∧ 0 < q.2.2 ∧ Jvm.Cond.fieldLink (tb_R 4) 214 (q.2.1 0).1 (q.2.1 0).2.1 (q.2.1 0).2.2.1 ∈ tb_T := ⟨(RX3, TX3, 12), rfl, by show 0 < 12; decide, tb_in 113 (by decide +kernel) rfl⟩
theorem okf_24 : ∃ q : vw_C, vwCl[3]? = some q ∧ 1 < q.2.2 ∧ Jvm.Cond.fieldLink (tb_R 3) 18 (q.2.1 1).1 (q.2.1 1).2.1 (q.2.1 1).2.2.1 ∈ tb_T := ⟨(RX3, TX3, 12), rfl, by show 1 < 12; decide, tb_in 114 (by decide +kernel) rfl⟩
theorem okf_25 : ∃ q : vw_C, vwCl[3]? = some q ∧ 1 < q.2.2 ∧ Jvm.Cond.fieldLink (tb_R 1) 99 (q.2.1 1).1 (q.2.1 1).2.1 (q.2.1 1).2.2.1 ∈ tb_T := ⟨(RX3, TX3, 12), rfl, by show 1 < 12; decide, tb_in 115 (by decide +kernel) rfl⟩
theorem okf_26 : ∃ q : vw_C, vwCl[3]? = some q ∧ 1 < q.2.2 ∧ Jvm.Cond.fieldLink (tb_R 4) 217 (q.2.1 1).1 (q.2.1 1).2.1 (q.2.1 1).2.2.1 ∈ tb_T := ⟨(RX3, TX3, 12), rfl, by show 1 < 12; decide, tb_in 116 (by decide +kernel) rfl⟩
theorem okf_27 : ∃ q : vw_C, vwCl[3]? = some q ∧ 2 < q.2.2 ∧ Jvm.Cond.fieldLink (tb_R 3) 21 (q.2.1 2).1 (q.2.1 2).2.1 (q.2.1 2).2.2.1 ∈ tb_T := ⟨(RX3, TX3, 12), rfl, by show 2 < 12; decide, tb_in 117 (by decide +kernel) rfl⟩
theorem okf_28 : ∃ q : vw_C, vwCl[3]? = some q ∧ 2 < q.2.2 ∧ Jvm.Cond.fieldLink (tb_R 4) 220 (q.2.1 2).1 (q.2.1 2).2.1 (q.2.1 2).2.2.1 ∈ tb_T := ⟨(RX3, TX3, 12), rfl, by show 2 < 12; decide, tb_in 118 (by decide +kernel) rfl⟩
theorem okf_29 : ∃ q : vw_C, vwCl[3]? = some q ∧ 3 < q.2.2 ∧ Jvm.Cond.fieldLink (tb_R 3) 30 (q.2.1 3).1 (q.2.1 3).2.1 (q.2.1 3).2.2.1 ∈ tb_T := ⟨(RX3, TX3, 12), rfl, by show 3 < 12; decide, tb_in 119 (by decide +kernel) rfl⟩
theorem okf_30 : ∃ q : vw_C, vwCl[3]? = some q ∧ 3 < q.2.2 ∧ Jvm.Cond.fieldLink (tb_R 4) 91 (q.2.1 3).1 (q.2.1 3).2.1 (q.2.1 3).2.2.1 ∈ tb_T := ⟨(RX3, TX3, 12), rfl, by show 3 < 12; decide, tb_in 120 (by decide +kernel) rfl⟩
theorem okf_31 : ∃ q : vw_C, vwCl[3]? = some q ∧ 3 < q.2.2 ∧ Jvm.Cond.fieldLink (tb_R 1) 86 (q.2.1 3).1 (q.2.1 3).2.1 (q.2.1 3).2.2.1 ∈ tb_T := ⟨(RX3, TX3, 12), rfl, by show 3 < 12; decide, tb_in 121 (by decide +kernel) rfl⟩
theorem okf_32 : ∃ q : vw_C, vwCl[3]? = some q ∧ 4 < q.2.2 ∧ Jvm.Cond.fieldLink (tb_R 3) 33 (q.2.1 4).1 (q.2.1 4).2.1 (q.2.1 4).2.2.1 ∈ tb_T := ⟨(RX3, TX3, 12), rfl, by show 4 < 12; decide, tb_in 122 (by decide +kernel) rfl⟩
theorem okf_33 : ∃ q : vw_C, vwCl[3]? = some q ∧ 4 < q.2.2 ∧ Jvm.Cond.fieldLink (tb_R 4) 99 (q.2.1 4).1 (q.2.1 4).2.1 (q.2.1 4).2.2.1 ∈ tb_T := ⟨(RX3, TX3, 12), rfl, by show 4 < 12; decide, tb_in 123 (by decide +kernel) rfl⟩
theorem okf_34 : ∃ q : vw_C, vwCl[3]? = some q ∧ 4 < q.2.2 ∧ Jvm.Cond.fieldLink (tb_R 1) 102 (q.2.1 4).1 (q.2.1 4).2.1 (q.2.1 4).2.2.1 ∈ tb_T := ⟨(RX3, TX3, 12), rfl, by show 4 < 12; decide, tb_in 124 (by decide +kernel) rfl⟩
theorem okf_35 : ∃ q : vw_C, vwCl[3]? = some q ∧ 5 < q.2.2 ∧ Jvm.Cond.fieldLink (tb_R 3) 9 (q.2.1 5).1 (q.2.1 5).2.1 (q.2.1 5).2.2.1 ∈ tb_T := ⟨(RX3, TX3, 12), rfl, by show 5 < 12; decide, tb_in 125 (by decide +kernel) rfl⟩
theorem okf_36 : ∃ q : vw_C, vwCl[3]? = some q ∧ 5 < q.2.2 ∧ Jvm.Cond.fieldLink (tb_R 4) 96 (q.2.1 5).1 (q.2.1 5).2.1 (q.2.1 5).2.2.1 ∈ tb_T := ⟨(RX3, TX3, 12), rfl, by show 5 < 12; decide, tb_in 126 (by decide +kernel) rfl⟩
theorem okf_37 : ∃ q : vw_C, vwCl[3]? = some q ∧ 5 < q.2.2 ∧ Jvm.Cond.fieldLink (tb_R 1) 93 (q.2.1 5).1 (q.2.1 5).2.1 (q.2.1 5).2.2.1 ∈ tb_T := ⟨(RX3, TX3, 12), rfl, by show 5 < 12; decide, tb_in 127 (by decide +kernel) rfl⟩
theorem okf_38 : ∃ q : vw_C, vwCl[3]? = some q ∧ 6 < q.2.2 ∧ Jvm.Cond.fieldLink (tb_R 3) 36 (q.2.1 6).1 (q.2.1 6).2.1 (q.2.1 6).2.2.1 ∈ tb_T := ⟨(RX3, TX3, 12), rfl, by show 6 < 12; decide, tb_in 128 (by decide +kernel) rfl⟩
theorem okf_39 : ∃ q : vw_C, vwCl[3]? = some q ∧ 6 < q.2.2 ∧ Jvm.Cond.fieldLink (tb_R 4) 110 (q.2.1 6).1 (q.2.1 6).2.1 (q.2.1 6).2.2.1 ∈ tb_T := ⟨(RX3, TX3, 12), rfl, by show 6 < 12; decide, tb_in 129 (by decide +kernel) rfl⟩
theorem okf_40 : ∃ q : vw_C, vwCl[3]? = some q ∧ 6 < q.2.2 ∧ Jvm.Cond.fieldLink (tb_R 1) 109 (q.2.1 6).1 (q.2.1 6).2.1 (q.2.1 6).2.2.1 ∈ tb_T := ⟨(RX3, TX3, 12), rfl, by show 6 < 12; decide, tb_in 130 (by decide +kernel) rfl⟩
theorem okf_41 : ∃ q : vw_C, vwCl[3]? = some q ∧ 7 < q.2.2 ∧ Jvm.Cond.fieldLink (tb_R 3) 39 (q.2.1 7).1 (q.2.1 7).2.1 (q.2.1 7).2.2.1 ∈ tb_T := ⟨(RX3, TX3, 12), rfl, by show 7 < 12; decide, tb_in 131 (by decide +kernel) rfl⟩
theorem okf_42 : ∃ q : vw_C, vwCl[3]? = some q ∧ 7 < q.2.2 ∧ Jvm.Cond.fieldLink (tb_R 4) 116 (q.2.1 7).1 (q.2.1 7).2.1 (q.2.1 7).2.2.1 ∈ tb_T := ⟨(RX3, TX3, 12), rfl, by show 7 < 12; decide, tb_in 132 (by decide +kernel) rfl⟩
theorem okf_43 : ∃ q : vw_C, vwCl[3]? = some q ∧ 7 < q.2.2 ∧ Jvm.Cond.fieldLink (tb_R 1) 112 (q.2.1 7).1 (q.2.1 7).2.1 (q.2.1 7).2.2.1 ∈ tb_T := ⟨(RX3, TX3, 12), rfl, by show 7 < 12; decide, tb_in 133 (by decide +kernel) rfl⟩
theorem okf_44 : ∃ q : vw_C, vwCl[3]? = some q ∧ 8 < q.2.2 ∧ Jvm.Cond.fieldLink (tb_R 3) 24 (q.2.1 8).1 (q.2.1 8).2.1 (q.2.1 8).2.2.1 ∈ tb_T := ⟨(RX3, TX3, 12), rfl, by show 8 < 12; decide, tb_in 134 (by decide +kernel) rfl⟩
theorem okf_45 : ∃ q : vw_C, vwCl[3]? = some q ∧ 8 < q.2.2 ∧ Jvm.Cond.fieldLink (tb_R 1) 134 (q.2.1 8).1 (q.2.1 8).2.1 (q.2.1 8).2.2.1 ∈ tb_T := ⟨(RX3, TX3, 12), rfl, by show 8 < 12; decide, tb_in 135 (by decide +kernel) rfl⟩
theorem okf_46 : ∃ q : vw_C, vwCl[3]? = some q ∧ 8 < q.2.2 ∧ Jvm.Cond.fieldLink (tb_R 4) 229 (q.2.1 8).1 (q.2.1 8).2.1 (q.2.1 8).2.2.1 ∈ tb_T := ⟨(RX3, TX3, 12), rfl, by show 8 < 12; decide, tb_in 136 (by decide +kernel) rfl⟩
theorem okf_47 : ∃ q : vw_C, vwCl[3]? = some q ∧ 9 < q.2.2 ∧ Jvm.Cond.fieldLink (tb_R 3) 42 (q.2.1 9).1 (q.2.1 9).2.1 (q.2.1 9).2.2.1 ∈ tb_T := ⟨(RX3, TX3, 12), rfl, by show 9 < 12; decide, tb_in 137 (by decide +kernel) rfl⟩
theorem okf_48 : ∃ q : vw_C, vwCl[3]? = some q ∧ 9 < q.2.2 ∧ Jvm.Cond.fieldLink (tb_R 1) 148 (q.2.1 9).1 (q.2.1 9).2.1 (q.2.1 9).2.2.1 ∈ tb_T := ⟨(RX3, TX3, 12), rfl, by show 9 < 12; decide, tb_in 138 (by decide +kernel) rfl⟩
theorem okf_49 : ∃ q : vw_C, vwCl[3]? = some q ∧ 9 < q.2.2 ∧ Jvm.Cond.fieldLink (tb_R 4) 232 (q.2.1 9).1 (q.2.1 9).2.1 (q.2.1 9).2.2.1 ∈ tb_T := ⟨(RX3, TX3, 12), rfl, by show 9 < 12; decide, tb_in 139 (by decide +kernel) rfl⟩
theorem okf_50 : ∃ q : vw_C, vwCl[3]? = some q ∧ 10 < q.2.2 ∧ Jvm.Cond.fieldLink (tb_R 3) 45 (q.2.1 10).1 (q.2.1 10).2.1 (q.2.1 10).2.2.1 ∈ tb_T := ⟨(RX3, TX3, 12), rfl, by show 10 < 12; decide, tb_in 140 (by decide +kernel) rfl⟩
theorem okf_51 : ∃ q : vw_C, vwCl[3]? = some q ∧ 10 < q.2.2 ∧ Jvm.Cond.fieldLink (tb_R 1) 151 (q.2.1 10).1 (q.2.1 10).2.1 (q.2.1 10).2.2.1 ∈ tb_T := ⟨(RX3, TX3, 12), rfl, by show 10 < 12; decide, tb_in 141 (by decide +kernel) rfl⟩
theorem okf_52 : ∃ q : vw_C, vwCl[3]? = some q ∧ 10 < q.2.2 ∧ Jvm.Cond.fieldLink (tb_R 4) 240 (q.2.1 10).1 (q.2.1 10).2.1 (q.2.1 10).2.2.1 ∈ tb_T := ⟨(RX3, TX3, 12), rfl, by show 10 < 12; decide, tb_in 142 (by decide +kernel) rfl⟩
theorem okf_53 : ∃ q : vw_C, vwCl[3]? = some q ∧ 11 < q.2.2 ∧ Jvm.Cond.fieldLink (tb_R 3) 48 (q.2.1 11).1 (q.2.1 11).2.1 (q.2.1 11).2.2.1 ∈ tb_T := ⟨(RX3, TX3, 12), rfl, by show 11 < 12; decide, tb_in 143 (by decide +kernel) rfl⟩
theorem okf_54 : ∃ q : vw_C, vwCl[3]? = some q ∧ 11 < q.2.2 ∧ Jvm.Cond.fieldLink (tb_R 4) 129 (q.2.1 11).1 (q.2.1 11).2.1 (q.2.1 11).2.2.1 ∈ tb_T := ⟨(RX3, TX3, 12), rfl, by show 11 < 12; decide, tb_in 144 (by decide +kernel) rfl⟩
theorem okf_55 : ∃ q : vw_C, vwCl[3]? = some q ∧ 11 < q.2.2 ∧ Jvm.Cond.fieldLink (tb_R 1) 163 (q.2.1 11).1 (q.2.1 11).2.1 (q.2.1 11).2.2.1 ∈ tb_T := ⟨(RX3, TX3, 12), rfl, by show 11 < 12; decide, tb_in 145 (by decide +kernel) rfl⟩
theorem okf_56 : ∃ q : vw_C, vwCl[1]? = some q ∧ 0 < q.2.2 ∧ Jvm.Cond.fieldLink (tb_R 1) 11 (q.2.1 0).1 (q.2.1 0).2.1 (q.2.1 0).2.2.1 ∈ tb_T := ⟨(RX1, TX1, 12), rfl, by show 0 < 12; decide, tb_in 171 (by decide +kernel) rfl⟩
theorem okf_57 : ∃ q : vw_C, vwCl[1]? = some q ∧ 0 < q.2.2 ∧ Jvm.Cond.fieldLink (tb_R 4) 169 (q.2.1 0).1 (q.2.1 0).2.1 (q.2.1 0).2.2.1 ∈ tb_T := ⟨(RX1, TX1, 12), rfl, by show 0 < 12; decide, tb_in 172 (by decide +kernel) rfl⟩
theorem okf_58 : ∃ q : vw_C, vwCl[1]? = some q ∧ 1 < q.2.2 ∧ Jvm.Cond.fieldLink (tb_R 1) 20 (q.2.1 1).1 (q.2.1 1).2.1 (q.2.1 1).2.2.1 ∈ tb_T := ⟨(RX1, TX1, 12), rfl, by show 1 < 12; decide, tb_in 173 (by decide +kernel) rfl⟩
theorem okf_59 : ∃ q : vw_C, vwCl[1]? = some q ∧ 1 < q.2.2 ∧ Jvm.Cond.fieldLink (tb_R 4) 190 (q.2.1 1).1 (q.2.1 1).2.1 (q.2.1 1).2.2.1 ∈ tb_T := ⟨(RX1, TX1, 12), rfl, by show 1 < 12; decide, tb_in 174 (by decide +kernel) rfl⟩
theorem okf_60 : ∃ q : vw_C, vwCl[1]? = some q ∧ 2 < q.2.2 ∧ Jvm.Cond.fieldLink (tb_R 1) 27 (q.2.1 2).1 (q.2.1 2).2.1 (q.2.1 2).2.2.1 ∈ tb_T := ⟨(RX1, TX1, 12), rfl, by show 2 < 12; decide, tb_in 175 (by decide +kernel) rfl⟩
theorem okf_61 : ∃ q : vw_C, vwCl[1]? = some q ∧ 2 < q.2.2 ∧ Jvm.Cond.fieldLink (tb_R 4) 87 (q.2.1 2).1 (q.2.1 2).2.1 (q.2.1 2).2.2.1 ∈ tb_T := ⟨(RX1, TX1, 12), rfl, by show 2 < 12; decide, tb_in 176 (by decide +kernel) rfl⟩
theorem okf_62 : ∃ q : vw_C, vwCl[1]? = some q ∧ 3 < q.2.2 ∧ Jvm.Cond.fieldLink (tb_R 1) 39 (q.2.1 3).1 (q.2.1 3).2.1 (q.2.1 3).2.2.1 ∈ tb_T := ⟨(RX1, TX1, 12), rfl, by show 3 < 12; decide, tb_in 177 (by decide +kernel) rfl⟩
theorem okf_63 : ∃ q : vw_C, vwCl[1]? = some q ∧ 3 < q.2.2 ∧ Jvm.Cond.fieldLink (tb_R 4) 38 (q.2.1 3).1 (q.2.1 3).2.1 (q.2.1 3).2.2.1 ∈ tb_T := ⟨(RX1, TX1, 12), rfl, by show 3 < 12; decide, tb_in 178 (by decide +kernel) rfl⟩
theorem okf_64 : ∃ q : vw_C, vwCl[1]? = some q ∧ 4 < q.2.2 ∧ Jvm.Cond.fieldLink (tb_R 1) 46 (q.2.1 4).1 (q.2.1 4).2.1 (q.2.1 4).2.2.1 ∈ tb_T := ⟨(RX1, TX1, 12), rfl, by show 4 < 12; decide, tb_in 179 (by decide +kernel) rfl⟩
theorem okf_65 : ∃ q : vw_C, vwCl[1]? = some q ∧ 4 < q.2.2 ∧ Jvm.Cond.fieldLink (tb_R 4) 48 (q.2.1 4).1 (q.2.1 4).2.1 (q.2.1 4).2.2.1 ∈ tb_T := ⟨(RX1, TX1, 12), rfl, by show 4 < 12; decide, tb_in 180 (by decide +kernel) rfl⟩
theorem okf_66 : ∃ q : vw_C, vwCl[1]? = some q ∧ 5 < q.2.2 ∧ Jvm.Cond.fieldLink (tb_R 1) 52 (q.2.1 5).1 (q.2.1 5).2.1 (q.2.1 5).2.2.1 ∈ tb_T := ⟨(RX1, TX1, 12), rfl, by show 5 < 12; decide, tb_in 181 (by decide +kernel) rfl⟩
theorem okf_67 : ∃ q : vw_C, vwCl[1]? = some q ∧ 5 < q.2.2 ∧ Jvm.Cond.fieldLink (tb_R 4) 73 (q.2.1 5).1 (q.2.1 5).2.1 (q.2.1 5).2.2.1 ∈ tb_T := ⟨(RX1, TX1, 12), rfl, by show 5 < 12; decide, tb_in 182 (by decide +kernel) rfl⟩
theorem okf_68 : ∃ q : vw_C, vwCl[1]? = some q ∧ 6 < q.2.2 ∧ Jvm.Cond.fieldLink (tb_R 1) 58 (q.2.1 6).1 (q.2.1 6).2.1 (q.2.1 6).2.2.1 ∈ tb_T := ⟨(RX1, TX1, 12), rfl, by show 6 < 12; decide, tb_in 183 (by decide +kernel) rfl⟩
theorem okf_69 : ∃ q : vw_C, vwCl[1]? = some q ∧ 6 < q.2.2 ∧ Jvm.Cond.fieldLink (tb_R 4) 144 (q.2.1 6).1 (q.2.1 6).2.1 (q.2.1 6).2.2.1 ∈ tb_T := ⟨(RX1, TX1, 12), rfl, by show 6 < 12; decide, tb_in 184 (by decide +kernel) rfl⟩
theorem okf_70 : ∃ q : vw_C, vwCl[1]? = some q ∧ 7 < q.2.2 ∧ Jvm.Cond.fieldLink (tb_R 1) 61 (q.2.1 7).1 (q.2.1 7).2.1 (q.2.1 7).2.2.1 ∈ tb_T := ⟨(RX1, TX1, 12), rfl, by show 7 < 12; decide, tb_in 185 (by decide +kernel) rfl⟩
theorem okf_71 : ∃ q : vw_C, vwCl[1]? = some q ∧ 7 < q.2.2 ∧ Jvm.Cond.fieldLink (tb_R 4) 56 (q.2.1 7).1 (q.2.1 7).2.1 (q.2.1 7).2.2.1 ∈ tb_T := ⟨(RX1, TX1, 12), rfl, by show 7 < 12; decide, tb_in 186 (by decide +kernel) rfl⟩
theorem okf_72 : ∃ q : vw_C, vwCl[1]? = some q ∧ 8 < q.2.2 ∧ Jvm.Cond.fieldLink (tb_R 1) 32 (q.2.1 8).1 (q.2.1 8).2.1 (q.2.1 8).2.2.1 ∈ tb_T := ⟨(RX1, TX1, 12), rfl, by show 8 < 12; decide, tb_in 187 (by decide +kernel) rfl⟩
theorem okf_73 : ∃ q : vw_C, vwCl[1]? = some q ∧ 8 < q.2.2 ∧ Jvm.Cond.fieldLink (tb_R 4) 60 (q.2.1 8).1 (q.2.1 8).2.1 (q.2.1 8).2.2.1 ∈ tb_T := ⟨(RX1, TX1, 12), rfl, by show 8 < 12; decide, tb_in 188 (by decide +kernel) rfl⟩
theorem okf_74 : ∃ q : vw_C, vwCl[1]? = some q ∧ 9 < q.2.2 ∧ Jvm.Cond.fieldLink (tb_R 1) 36 (q.2.1 9).1 (q.2.1 9).2.1 (q.2.1 9).2.2.1 ∈ tb_T := ⟨(RX1, TX1, 12), rfl, by show 9 < 12; decide, tb_in 189 (by decide +kernel) rfl⟩
theorem okf_75 : ∃ q : vw_C, vwCl[1]? = some q ∧ 9 < q.2.2 ∧ Jvm.Cond.fieldLink (tb_R 4) 63 (q.2.1 9).1 (q.2.1 9).2.1 (q.2.1 9).2.2.1 ∈ tb_T := ⟨(RX1, TX1, 12), rfl, by show 9 < 12; decide, tb_in 190 (by decide +kernel) rfl⟩
theorem okf_76 : ∃ q : vw_C, vwCl[1]? = some q ∧ 10 < q.2.2 ∧ Jvm.Cond.fieldLink (tb_R 1) 64 (q.2.1 10).1 (q.2.1 10).2.1 (q.2.1 10).2.2.1 ∈ tb_T := ⟨(RX1, TX1, 12), rfl, by show 10 < 12; decide, tb_in 191 (by decide +kernel) rfl⟩
theorem okf_77 : ∃ q : vw_C, vwCl[1]? = some q ∧ 10 < q.2.2 ∧ Jvm.Cond.fieldLink (tb_R 4) 160 (q.2.1 10).1 (q.2.1 10).2.1 (q.2.1 10).2.2.1 ∈ tb_T := ⟨(RX1, TX1, 12), rfl, by show 10 < 12; decide, tb_in 192 (by decide +kernel) rfl⟩
theorem okf_78 : ∃ q : vw_C, vwCl[1]? = some q ∧ 11 < q.2.2 ∧ Jvm.Cond.fieldLink (tb_R 1) 67 (q.2.1 11).1 (q.2.1 11).2.1 (q.2.1 11).2.2.1 ∈ tb_T := ⟨(RX1, TX1, 12), rfl, by show 11 < 12; decide, tb_in 193 (by decide +kernel) rfl⟩
theorem okf_79 : ∃ q : vw_C, vwCl[1]? = some q ∧ 11 < q.2.2 ∧ Jvm.Cond.fieldLink (tb_R 4) 163 (q.2.1 11).1 (q.2.1 11).2.1 (q.2.1 11).2.2.1 ∈ tb_T := ⟨(RX1, TX1, 12), rfl, by show 11 < 12; decide, tb_in 194 (by decide +kernel) rfl⟩
theorem okf_80 : ∃ q : vw_C, vwCl[4]? = some q ∧ 0 < q.2.2 ∧ Jvm.Cond.fieldLink (tb_R 4) 10 (q.2.1 0).1 (q.2.1 0).2.1 (q.2.1 0).2.2.1 ∈ tb_T := ⟨(RX4, TX4, 6), rfl, by show 0 < 6; decide, tb_in 221 (by decide +kernel) rfl⟩
theorem okf_81 : ∃ q : vw_C, vwCl[4]? = some q ∧ 1 < q.2.2 ∧ Jvm.Cond.fieldLink (tb_R 4) 16 (q.2.1 1).1 (q.2.1 1).2.1 (q.2.1 1).2.2.1 ∈ tb_T := ⟨(RX4, TX4, 6), rfl, by show 1 < 6; decide, tb_in 222 (by decide +kernel) rfl⟩
theorem okf_82 : ∃ q : vw_C, vwCl[4]? = some q ∧ 2 < q.2.2 ∧ Jvm.Cond.fieldLink (tb_R 4) 19 (q.2.1 2).1 (q.2.1 2).2.1 (q.2.1 2).2.2.1 ∈ tb_T := ⟨(RX4, TX4, 6), rfl, by show 2 < 6; decide, tb_in 223 (by decide +kernel) rfl⟩
theorem okf_83 : ∃ q : vw_C, vwCl[4]? = some q ∧ 3 < q.2.2 ∧ Jvm.Cond.fieldLink (tb_R 4) 23 (q.2.1 3).1 (q.2.1 3).2.1 (q.2.1 3).2.2.1 ∈ tb_T := ⟨(RX4, TX4, 6), rfl, by show 3 < 6; decide, tb_in 224 (by decide +kernel) rfl⟩
theorem okf_84 : ∃ q : vw_C, vwCl[4]? = some q ∧ 4 < q.2.2 ∧ Jvm.Cond.fieldLink (tb_R 4) 27 (q.2.1 4).1 (q.2.1 4).2.1 (q.2.1 4).2.2.1 ∈ tb_T := ⟨(RX4, TX4, 6), rfl, by show 4 < 6; decide, tb_in 225 (by decide +kernel) rfl⟩
theorem okf_85 : ∃ q : vw_C, vwCl[4]? = some q ∧ 5 < q.2.2 ∧ Jvm.Cond.fieldLink (tb_R 4) 31 (q.2.1 5).1 (q.2.1 5).2.1 (q.2.1 5).2.2.1 ∈ tb_T := ⟨(RX4, TX4, 6), rfl, by show 5 < 6; decide, tb_in 226 (by decide +kernel) rfl⟩
theorem okf_86 : ∃ q : vw_C, vwCl[5]? = some q ∧ 0 < q.2.2 ∧ Jvm.Cond.fieldLink (tb_R 5) 7 (q.2.1 0).1 (q.2.1 0).2.1 (q.2.1 0).2.2.1 ∈ tb_T := ⟨(RX5, TX5, 5), rfl, by show 0 < 5; decide, tb_in 524 (by decide +kernel) rfl⟩
theorem okf_87 : ∃ q : vw_C, vwCl[5]? = some q ∧ 1 < q.2.2 ∧ Jvm.Cond.fieldLink (tb_R 5) 13 (q.2.1 1).1 (q.2.1 1).2.1 (q.2.1 1).2.2.1 ∈ tb_T := ⟨(RX5, TX5, 5), rfl, by show 1 < 5; decide, tb_in 525 (by decide +kernel) rfl⟩
theorem okf_88 : ∃ q : vw_C, vwCl[5]? = some q ∧ 2 < q.2.2 ∧ Jvm.Cond.fieldLink (tb_R 5) 16 (q.2.1 2).1 (q.2.1 2).2.1 (q.2.1 2).2.2.1 ∈ tb_T := ⟨(RX5, TX5, 5), rfl, by show 2 < 5; decide, tb_in 526 (by decide +kernel) rfl⟩
theorem okf_89 : ∃ q : vw_C, vwCl[5]? = some q ∧ 3 < q.2.2 ∧ Jvm.Cond.fieldLink (tb_R 5) 22 (q.2.1 3).1 (q.2.1 3).2.1 (q.2.1 3).2.2.1 ∈ tb_T := ⟨(RX5, TX5, 5), rfl, by show 3 < 5; decide, tb_in 527 (by decide +kernel) rfl⟩
theorem okf_90 : ∃ q : vw_C, vwCl[5]? = some q ∧ 4 < q.2.2 ∧ Jvm.Cond.fieldLink (tb_R 5) 19 (q.2.1 4).1 (q.2.1 4).2.1 (q.2.1 4).2.2.1 ∈ tb_T := ⟨(RX5, TX5, 5), rfl, by show 4 < 5; decide, tb_in 528 (by decide +kernel) rfl⟩
theorem tb_and {a b c d : Nat} (h : (a == b && c == d) = true) : a = b ∧ c = d := by
  rw [Bool.and_eq_true] at h
  exact ⟨eq_of_beq h.1, eq_of_beq h.2⟩
set_option maxRecDepth 100000 in
theorem ok_allf : ∀ e ∈ tb_f, ∃ q : vw_C, vwCl[e.2.2.1]? = some q ∧ e.2.2.2 < q.2.2 ∧ Jvm.Cond.fieldLink (tb_R e.1) e.2.1 (q.2.1 e.2.2.2).1 (q.2.1 e.2.2.2).2.1 (q.2.1 e.2.2.2).2.2.1 ∈ tb_T := by
  unfold tb_f
  refine List.forall_mem_cons.mpr ⟨okf_0, ?_⟩
  refine List.forall_mem_cons.mpr ⟨okf_1, ?_⟩
  refine List.forall_mem_cons.mpr ⟨okf_2, ?_⟩
  refine List.forall_mem_cons.mpr ⟨okf_3, ?_⟩
  refine List.forall_mem_cons.mpr ⟨okf_4, ?_⟩
  refine List.forall_mem_cons.mpr ⟨okf_5, ?_⟩
  refine List.forall_mem_cons.mpr ⟨okf_6, ?_⟩
  refine List.forall_mem_cons.mpr ⟨okf_7, ?_⟩
  refine List.forall_mem_cons.mpr ⟨okf_8, ?_⟩
  refine List.forall_mem_cons.mpr ⟨okf_9, ?_⟩
  refine List.forall_mem_cons.mpr ⟨okf_10, ?_⟩
  refine List.forall_mem_cons.mpr ⟨okf_11, ?_⟩
  refine List.forall_mem_cons.mpr ⟨okf_12, ?_⟩
  refine List.forall_mem_cons.mpr ⟨okf_13, ?_⟩
  refine List.forall_mem_cons.mpr ⟨okf_14, ?_⟩
  refine List.forall_mem_cons.mpr ⟨okf_15, ?_⟩
  refine List.forall_mem_cons.mpr ⟨okf_16, ?_⟩
  refine List.forall_mem_cons.mpr ⟨okf_17, ?_⟩
  refine List.forall_mem_cons.mpr ⟨okf_18, ?_⟩
  refine List.forall_mem_cons.mpr ⟨okf_19, ?_⟩
  refine List.forall_mem_cons.mpr ⟨okf_20, ?_⟩
  refine List.forall_mem_cons.mpr ⟨okf_21, ?_⟩
  refine List.forall_mem_cons.mpr ⟨okf_22, ?_⟩
  refine List.forall_mem_cons.mpr ⟨okf_23, ?_⟩
  refine List.forall_mem_cons.mpr ⟨okf_24, ?_⟩
  refine List.forall_mem_cons.mpr ⟨okf_25, ?_⟩
  refine List.forall_mem_cons.mpr ⟨okf_26, ?_⟩
  refine List.forall_mem_cons.mpr ⟨okf_27, ?_⟩
  refine List.forall_mem_cons.mpr ⟨okf_28, ?_⟩
  refine List.forall_mem_cons.mpr ⟨okf_29, ?_⟩
  refine List.forall_mem_cons.mpr ⟨okf_30, ?_⟩
  refine List.forall_mem_cons.mpr ⟨okf_31, ?_⟩
  refine List.forall_mem_cons.mpr ⟨okf_32, ?_⟩
  refine List.forall_mem_cons.mpr ⟨okf_33, ?_⟩
  refine List.forall_mem_cons.mpr ⟨okf_34, ?_⟩
  refine List.forall_mem_cons.mpr ⟨okf_35, ?_⟩
  refine List.forall_mem_cons.mpr ⟨okf_36, ?_⟩
  refine List.forall_mem_cons.mpr ⟨okf_37, ?_⟩
  refine List.forall_mem_cons.mpr ⟨okf_38, ?_⟩
  refine List.forall_mem_cons.mpr ⟨okf_39, ?_⟩
  refine List.forall_mem_cons.mpr ⟨okf_40, ?_⟩
  refine List.forall_mem_cons.mpr ⟨okf_41, ?_⟩
  refine List.forall_mem_cons.mpr ⟨okf_42, ?_⟩
  refine List.forall_mem_cons.mpr ⟨okf_43, ?_⟩
  refine List.forall_mem_cons.mpr ⟨okf_44, ?_⟩
  refine List.forall_mem_cons.mpr ⟨okf_45, ?_⟩
  refine List.forall_mem_cons.mpr ⟨okf_46, ?_⟩
  refine List.forall_mem_cons.mpr ⟨okf_47, ?_⟩
  refine List.forall_mem_cons.mpr ⟨okf_48, ?_⟩
  refine List.forall_mem_cons.mpr ⟨okf_49, ?_⟩
  refine List.forall_mem_cons.mpr ⟨okf_50, ?_⟩
  refine List.forall_mem_cons.mpr ⟨okf_51, ?_⟩
  refine List.forall_mem_cons.mpr ⟨okf_52, ?_⟩
  refine List.forall_mem_cons.mpr ⟨okf_53, ?_⟩
  refine List.forall_mem_cons.mpr ⟨okf_54, ?_⟩
  refine List.forall_mem_cons.mpr ⟨okf_55, ?_⟩
  refine List.forall_mem_cons.mpr ⟨okf_56, ?_⟩
  refine List.forall_mem_cons.mpr ⟨okf_57, ?_⟩
  refine List.forall_mem_cons.mpr ⟨okf_58, ?_⟩
  refine List.forall_mem_cons.mpr ⟨okf_59, ?_⟩
  refine List.forall_mem_cons.mpr ⟨okf_60, ?_⟩
  refine List.forall_mem_cons.mpr ⟨okf_61, ?_⟩
  refine List.forall_mem_cons.mpr ⟨okf_62, ?_⟩
  refine List.forall_mem_cons.mpr ⟨okf_63, ?_⟩
  refine List.forall_mem_cons.mpr ⟨okf_64, ?_⟩
  refine List.forall_mem_cons.mpr ⟨okf_65, ?_⟩
  refine List.forall_mem_cons.mpr ⟨okf_66, ?_⟩
  refine List.forall_mem_cons.mpr ⟨okf_67, ?_⟩
  refine List.forall_mem_cons.mpr ⟨okf_68, ?_⟩
  refine List.forall_mem_cons.mpr ⟨okf_69, ?_⟩
  refine List.forall_mem_cons.mpr ⟨okf_70, ?_⟩
  refine List.forall_mem_cons.mpr ⟨okf_71, ?_⟩
  refine List.forall_mem_cons.mpr ⟨okf_72, ?_⟩
  refine List.forall_mem_cons.mpr ⟨okf_73, ?_⟩
  refine List.forall_mem_cons.mpr ⟨okf_74, ?_⟩
  refine List.forall_mem_cons.mpr ⟨okf_75, ?_⟩
  refine List.forall_mem_cons.mpr ⟨okf_76, ?_⟩
  refine List.forall_mem_cons.mpr ⟨okf_77, ?_⟩
  refine List.forall_mem_cons.mpr ⟨okf_78, ?_⟩
  refine List.forall_mem_cons.mpr ⟨okf_79, ?_⟩
  refine List.forall_mem_cons.mpr ⟨okf_80, ?_⟩
  refine List.forall_mem_cons.mpr ⟨okf_81, ?_⟩
  refine List.forall_mem_cons.mpr ⟨okf_82, ?_⟩
  refine List.forall_mem_cons.mpr ⟨okf_83, ?_⟩
  refine List.forall_mem_cons.mpr ⟨okf_84, ?_⟩
  refine List.forall_mem_cons.mpr ⟨okf_85, ?_⟩
  refine List.forall_mem_cons.mpr ⟨okf_86, ?_⟩
  refine List.forall_mem_cons.mpr ⟨okf_87, ?_⟩
  refine List.forall_mem_cons.mpr ⟨okf_88, ?_⟩
  refine List.forall_mem_cons.mpr ⟨okf_89, ?_⟩
  refine List.forall_mem_cons.mpr ⟨okf_90, ?_⟩
  exact fun _ h => absurd h List.not_mem_nil
set_option maxRecDepth 100000 in
theorem ok_allc : ∀ e ∈ tb_c, pm_okC vwCl tb_R tb_T e.1 e.2.1 e.2.2 := by
  unfold tb_c
  refine List.forall_mem_cons.mpr ⟨okc_0, ?_⟩
  refine List.forall_mem_cons.mpr ⟨okc_1, ?_⟩
  refine List.forall_mem_cons.mpr ⟨okc_2, ?_⟩
  refine List.forall_mem_cons.mpr ⟨okc_3, ?_⟩
  refine List.forall_mem_cons.mpr ⟨okc_4, ?_⟩
  refine List.forall_mem_cons.mpr ⟨okc_5, ?_⟩
  refine List.forall_mem_cons.mpr ⟨okc_6, ?_⟩
  refine List.forall_mem_cons.mpr ⟨okc_7, ?_⟩
  refine List.forall_mem_cons.mpr ⟨okc_8, ?_⟩
  refine List.forall_mem_cons.mpr ⟨okc_9, ?_⟩
  refine List.forall_mem_cons.mpr ⟨okc_10, ?_⟩
  refine List.forall_mem_cons.mpr ⟨okc_11, ?_⟩
  refine List.forall_mem_cons.mpr ⟨okc_12, ?_⟩
  refine List.forall_mem_cons.mpr ⟨okc_13, ?_⟩
  refine List.forall_mem_cons.mpr ⟨okc_14, ?_⟩
  refine List.forall_mem_cons.mpr ⟨okc_15, ?_⟩
  refine List.forall_mem_cons.mpr ⟨okc_16, ?_⟩
  refine List.forall_mem_cons.mpr ⟨okc_17, ?_⟩
  refine List.forall_mem_cons.mpr ⟨okc_18, ?_⟩
  refine List.forall_mem_cons.mpr ⟨okc_19, ?_⟩
  refine List.forall_mem_cons.mpr ⟨okc_20, ?_⟩
  refine List.forall_mem_cons.mpr ⟨okc_21, ?_⟩
  refine List.forall_mem_cons.mpr ⟨okc_22, ?_⟩
  refine List.forall_mem_cons.mpr ⟨okc_23, ?_⟩
  refine List.forall_mem_cons.mpr ⟨okc_24, ?_⟩
  refine List.forall_mem_cons.mpr ⟨okc_25, ?_⟩
  refine List.forall_mem_cons.mpr ⟨okc_26, ?_⟩
  refine List.forall_mem_cons.mpr ⟨okc_27, ?_⟩
  refine List.forall_mem_cons.mpr ⟨okc_28, ?_⟩
  refine List.forall_mem_cons.mpr ⟨okc_29, ?_⟩
  refine List.forall_mem_cons.mpr ⟨okc_30, ?_⟩
  refine List.forall_mem_cons.mpr ⟨okc_31, ?_⟩
  refine List.forall_mem_cons.mpr ⟨okc_32, ?_⟩
  refine List.forall_mem_cons.mpr ⟨okc_33, ?_⟩
  refine List.forall_mem_cons.mpr ⟨okc_34, ?_⟩
  refine List.forall_mem_cons.mpr ⟨okc_35, ?_⟩
  refine List.forall_mem_cons.mpr ⟨okc_36, ?_⟩
  refine List.forall_mem_cons.mpr ⟨okc_37, ?_⟩
  refine List.forall_mem_cons.mpr ⟨okc_38, ?_⟩
  refine List.forall_mem_cons.mpr ⟨okc_39, ?_⟩
  refine List.forall_mem_cons.mpr ⟨okc_40, ?_⟩
  refine List.forall_mem_cons.mpr ⟨okc_41, ?_⟩
  refine List.forall_mem_cons.mpr ⟨okc_42, ?_⟩
  refine List.forall_mem_cons.mpr ⟨okc_43, ?_⟩
  refine List.forall_mem_cons.mpr ⟨okc_44, ?_⟩
  refine List.forall_mem_cons.mpr ⟨okc_45, ?_⟩
  refine List.forall_mem_cons.mpr ⟨okc_46, ?_⟩
  refine List.forall_mem_cons.mpr ⟨okc_47, ?_⟩
  refine List.forall_mem_cons.mpr ⟨okc_48, ?_⟩
  refine List.forall_mem_cons.mpr ⟨okc_49, ?_⟩
  refine List.forall_mem_cons.mpr ⟨okc_50, ?_⟩
  refine List.forall_mem_cons.mpr ⟨okc_51, ?_⟩
  refine List.forall_mem_cons.mpr ⟨okc_52, ?_⟩
  refine List.forall_mem_cons.mpr ⟨okc_53, ?_⟩
  refine List.forall_mem_cons.mpr ⟨okc_54, ?_⟩
  refine List.forall_mem_cons.mpr ⟨okc_55, ?_⟩
  refine List.forall_mem_cons.mpr ⟨okc_56, ?_⟩
  refine List.forall_mem_cons.mpr ⟨okc_57, ?_⟩
  refine List.forall_mem_cons.mpr ⟨okc_58, ?_⟩
  refine List.forall_mem_cons.mpr ⟨okc_59, ?_⟩
  refine List.forall_mem_cons.mpr ⟨okc_60, ?_⟩
  refine List.forall_mem_cons.mpr ⟨okc_61, ?_⟩
  refine List.forall_mem_cons.mpr ⟨okc_62, ?_⟩
  refine List.forall_mem_cons.mpr ⟨okc_63, ?_⟩
  refine List.forall_mem_cons.mpr ⟨okc_64, ?_⟩
  refine List.forall_mem_cons.mpr ⟨okc_65, ?_⟩
  refine List.forall_mem_cons.mpr ⟨okc_66, ?_⟩
  refine List.forall_mem_cons.mpr ⟨okc_67, ?_⟩
  refine List.forall_mem_cons.mpr ⟨okc_68, ?_⟩
  refine List.forall_mem_cons.mpr ⟨okc_69, ?_⟩
  refine List.forall_mem_cons.mpr ⟨okc_70, ?_⟩
  refine List.forall_mem_cons.mpr ⟨okc_71, ?_⟩
  refine List.forall_mem_cons.mpr ⟨okc_72, ?_⟩
  refine List.forall_mem_cons.mpr ⟨okc_73, ?_⟩
  refine List.forall_mem_cons.mpr ⟨okc_74, ?_⟩
  refine List.forall_mem_cons.mpr ⟨okc_75, ?_⟩
  refine List.forall_mem_cons.mpr ⟨okc_76, ?_⟩
  refine List.forall_mem_cons.mpr ⟨okc_77, ?_⟩
  refine List.forall_mem_cons.mpr ⟨okc_78, ?_⟩
  refine List.forall_mem_cons.mpr ⟨okc_79, ?_⟩
  refine List.forall_mem_cons.mpr ⟨okc_80, ?_⟩
  refine List.forall_mem_cons.mpr ⟨okc_81, ?_⟩
  refine List.forall_mem_cons.mpr ⟨okc_82, ?_⟩
  refine List.forall_mem_cons.mpr ⟨okc_83, ?_⟩
  refine List.forall_mem_cons.mpr ⟨okc_84, ?_⟩
  refine List.forall_mem_cons.mpr ⟨okc_85, ?_⟩
  refine List.forall_mem_cons.mpr ⟨okc_86, ?_⟩
  refine List.forall_mem_cons.mpr ⟨okc_87, ?_⟩
  refine List.forall_mem_cons.mpr ⟨okc_88, ?_⟩
  refine List.forall_mem_cons.mpr ⟨okc_89, ?_⟩
  refine List.forall_mem_cons.mpr ⟨okc_90, ?_⟩
  refine List.forall_mem_cons.mpr ⟨okc_91, ?_⟩
  refine List.forall_mem_cons.mpr ⟨okc_92, ?_⟩
  refine List.forall_mem_cons.mpr ⟨okc_93, ?_⟩
  refine List.forall_mem_cons.mpr ⟨okc_94, ?_⟩
  refine List.forall_mem_cons.mpr ⟨okc_95, ?_⟩
  refine List.forall_mem_cons.mpr ⟨okc_96, ?_⟩
  refine List.forall_mem_cons.mpr ⟨okc_97, ?_⟩
  refine List.forall_mem_cons.mpr ⟨okc_98, ?_⟩
  refine List.forall_mem_cons.mpr ⟨okc_99, ?_⟩
  refine List.forall_mem_cons.mpr ⟨okc_100, ?_⟩
  refine List.forall_mem_cons.mpr ⟨okc_101, ?_⟩
  refine List.forall_mem_cons.mpr ⟨okc_102, ?_⟩
  refine List.forall_mem_cons.mpr ⟨okc_103, ?_⟩
  refine List.forall_mem_cons.mpr ⟨okc_104, ?_⟩
  refine List.forall_mem_cons.mpr ⟨okc_105, ?_⟩
  refine List.forall_mem_cons.mpr ⟨okc_106, ?_⟩
  refine List.forall_mem_cons.mpr ⟨okc_107, ?_⟩
  refine List.forall_mem_cons.mpr ⟨okc_108, ?_⟩
  refine List.forall_mem_cons.mpr ⟨okc_109, ?_⟩
  refine List.forall_mem_cons.mpr ⟨okc_110, ?_⟩
  refine List.forall_mem_cons.mpr ⟨okc_111, ?_⟩
  refine List.forall_mem_cons.mpr ⟨okc_112, ?_⟩
  refine List.forall_mem_cons.mpr ⟨okc_113, ?_⟩
  refine List.forall_mem_cons.mpr ⟨okc_114, ?_⟩
  refine List.forall_mem_cons.mpr ⟨okc_115, ?_⟩
  refine List.forall_mem_cons.mpr ⟨okc_116, ?_⟩
  refine List.forall_mem_cons.mpr ⟨okc_117, ?_⟩
  refine List.forall_mem_cons.mpr ⟨okc_118, ?_⟩
  refine List.forall_mem_cons.mpr ⟨okc_119, ?_⟩
  refine List.forall_mem_cons.mpr ⟨okc_120, ?_⟩
  refine List.forall_mem_cons.mpr ⟨okc_121, ?_⟩
  refine List.forall_mem_cons.mpr ⟨okc_122, ?_⟩
  refine List.forall_mem_cons.mpr ⟨okc_123, ?_⟩
  refine List.forall_mem_cons.mpr ⟨okc_124, ?_⟩
  refine List.forall_mem_cons.mpr ⟨okc_125, ?_⟩
  refine List.forall_mem_cons.mpr ⟨okc_126, ?_⟩
  refine List.forall_mem_cons.mpr ⟨okc_127, ?_⟩
  refine List.forall_mem_cons.mpr ⟨okc_128, ?_⟩
  refine List.forall_mem_cons.mpr ⟨okc_129, ?_⟩
  refine List.forall_mem_cons.mpr ⟨okc_130, ?_⟩
  refine List.forall_mem_cons.mpr ⟨okc_131, ?_⟩
  refine List.forall_mem_cons.mpr ⟨okc_132, ?_⟩
  refine List.forall_mem_cons.mpr ⟨okc_133, ?_⟩
  refine List.forall_mem_cons.mpr ⟨okc_134, ?_⟩
  refine List.forall_mem_cons.mpr ⟨okc_135, ?_⟩
  refine List.forall_mem_cons.mpr ⟨okc_136, ?_⟩
  refine List.forall_mem_cons.mpr ⟨okc_137, ?_⟩
  refine List.forall_mem_cons.mpr ⟨okc_138, ?_⟩
  refine List.forall_mem_cons.mpr ⟨okc_139, ?_⟩
  refine List.forall_mem_cons.mpr ⟨okc_140, ?_⟩
  refine List.forall_mem_cons.mpr ⟨okc_141, ?_⟩
  refine List.forall_mem_cons.mpr ⟨okc_142, ?_⟩
  refine List.forall_mem_cons.mpr ⟨okc_143, ?_⟩
  refine List.forall_mem_cons.mpr ⟨okc_144, ?_⟩
  exact fun _ h => absurd h List.not_mem_nil
theorem okk0_0 : Jvm.Cond.constant (tb_R 4) 55 100000 ∈ tb_T := tb_in 291 (by decide +kernel) rfl
theorem okk0_1 : Jvm.Cond.constant (tb_R 4) 59 1000000 ∈ tb_T := tb_in 292 (by decide +kernel) rfl
theorem okk0_2 : Jvm.Cond.constant (tb_R 6) 265 1431655765 ∈ tb_T := tb_in 412 (by decide +kernel) rfl
theorem okk0_3 : Jvm.Cond.constant (tb_R 6) 266 858993459 ∈ tb_T := tb_in 413 (by decide +kernel) rfl
theorem okk0_4 : Jvm.Cond.constant (tb_R 6) 267 252645135 ∈ tb_T := tb_in 414 (by decide +kernel) rfl
theorem okk0_5 : Jvm.Cond.constant (tb_R 5) 40 100000 ∈ tb_T := tb_in 566 (by decide +kernel) rfl
theorem okk0_6 : Jvm.Cond.constant (tb_R 5) 41 1000000 ∈ tb_T := tb_in 567 (by decide +kernel) rfl
theorem ok_allk : ∀ e ∈ tb_k, Jvm.Cond.constant (tb_R e.1) e.2.1 e.2.2 ∈ tb_T := by
  unfold tb_k
  refine List.forall_mem_cons.mpr ⟨okk0_0, ?_⟩
  refine List.forall_mem_cons.mpr ⟨okk0_1, ?_⟩
  refine List.forall_mem_cons.mpr ⟨okk0_2, ?_⟩
  refine List.forall_mem_cons.mpr ⟨okk0_3, ?_⟩
  refine List.forall_mem_cons.mpr ⟨okk0_4, ?_⟩
  refine List.forall_mem_cons.mpr ⟨okk0_5, ?_⟩
  refine List.forall_mem_cons.mpr ⟨okk0_6, ?_⟩
  exact fun _ h => absurd h List.not_mem_nil
theorem okn_0 : ∃ q : vw_C, vwCl[1]? = some q ∧ tb_l 1 = q.2.2 ∧ Jvm.Cond.classLink (tb_R 4) 7 q.1 ∈ tb_T ∧ Jvm.Cond.instantiable q.1 q.2.2 ∈ tb_T ∧ Jvm.Cond.initialized q.1 ∈ tb_T := ⟨(RX1, TX1, 12), rfl, rfl, tb_in 47 (by decide +kernel) rfl, tb_in 48 (by decide +kernel) rfl, tb_in 32 (by decide +kernel) rfl⟩
theorem okn_1 : ∃ q : vw_C, vwCl[0]? = some q ∧ tb_l 0 = q.2.2 ∧ Jvm.Cond.classLink (tb_R 1) 9 q.1 ∈ tb_T ∧ Jvm.Cond.instantiable q.1 q.2.2 ∈ tb_T ∧ Jvm.Cond.initialized q.1 ∈ tb_T := ⟨(RX0, TX0, 3), rfl, rfl, tb_in 53 (by decide +kernel) rfl, tb_in 55 (by decide +kernel) rfl, tb_in 33 (by decide +kernel) rfl⟩
theorem okn_2 : ∃ q : vw_C, vwCl[2]? = some q ∧ tb_l 2 = q.2.2 ∧ Jvm.Cond.classLink (tb_R 1) 18 q.1 ∈ tb_T ∧ Jvm.Cond.instantiable q.1 q.2.2 ∈ tb_T ∧ Jvm.Cond.initialized q.1 ∈ tb_T := ⟨(RX2, TX2, 4), rfl, rfl, tb_in 76 (by decide +kernel) rfl, tb_in 78 (by decide +kernel) rfl, tb_in 34 (by decide +kernel) rfl⟩
theorem okn_3 : ∃ q : vw_C, vwCl[3]? = some q ∧ tb_l 3 = q.2.2 ∧ Jvm.Cond.classLink (tb_R 1) 25 q.1 ∈ tb_T ∧ Jvm.Cond.instantiable q.1 q.2.2 ∈ tb_T ∧ Jvm.Cond.initialized q.1 ∈ tb_T := ⟨(RX3, TX3, 12), rfl, rfl, tb_in 104 (by decide +kernel) rfl, tb_in 106 (by decide +kernel) rfl, tb_in 35 (by decide +kernel) rfl⟩
theorem okn_4 : ∃ q : vw_C, vwCl[4]? = some q ∧ tb_l 4 = q.2.2 ∧ Jvm.Cond.classLink (tb_R 8) 7 q.1 ∈ tb_T ∧ Jvm.Cond.instantiable q.1 q.2.2 ∈ tb_T ∧ Jvm.Cond.initialized q.1 ∈ tb_T := ⟨(RX4, TX4, 6), rfl, rfl, tb_in 39 (by decide +kernel) rfl, tb_in 40 (by decide +kernel) rfl, tb_in 31 (by decide +kernel) rfl⟩
theorem okn_5 : ∃ q : vw_C, vwCl[5]? = some q ∧ tb_l 5 = q.2.2 ∧ Jvm.Cond.classLink (tb_R 8) 10 q.1 ∈ tb_T ∧ Jvm.Cond.instantiable q.1 q.2.2 ∈ tb_T ∧ Jvm.Cond.initialized q.1 ∈ tb_T := ⟨(RX5, TX5, 5), rfl, rfl, tb_in 518 (by decide +kernel) rfl, tb_in 519 (by decide +kernel) rfl, tb_in 36 (by decide +kernel) rfl⟩
theorem ok_alln : ∀ e ∈ tb_n, ∃ q : vw_C, vwCl[e.2.2]? = some q ∧ tb_l e.2.2 = q.2.2 ∧ Jvm.Cond.classLink (tb_R e.1) e.2.1 q.1 ∈ tb_T ∧ Jvm.Cond.instantiable q.1 q.2.2 ∈ tb_T ∧ Jvm.Cond.initialized q.1 ∈ tb_T := by
  unfold tb_n
  refine List.forall_mem_cons.mpr ⟨okn_0, ?_⟩
  refine List.forall_mem_cons.mpr ⟨okn_1, ?_⟩
  refine List.forall_mem_cons.mpr ⟨okn_2, ?_⟩
  refine List.forall_mem_cons.mpr ⟨okn_3, ?_⟩
  refine List.forall_mem_cons.mpr ⟨okn_4, ?_⟩
  refine List.forall_mem_cons.mpr ⟨okn_5, ?_⟩
  exact fun _ h => absurd h List.not_mem_nil
theorem oka_0 : 1 ∈ tb_acs ∧ ∃ q : vw_C, vwCl[1]? = some q ∧ Jvm.Cond.classLink (tb_R 4) 7 q.1 ∈ tb_T := ⟨by decide, (RX1, TX1, 12), rfl, tb_in 47 (by decide +kernel) rfl⟩
theorem oka_1 : 0 ∈ tb_acs ∧ ∃ q : vw_C, vwCl[0]? = some q ∧ Jvm.Cond.classLink (tb_R 1) 9 q.1 ∈ tb_T := ⟨by decide, (RX0, TX0, 3), rfl, tb_in 53 (by decide +kernel) rfl⟩
theorem oka_2 : 2 ∈ tb_acs ∧ ∃ q : vw_C, vwCl[2]? = some q ∧ Jvm.Cond.classLink (tb_R 1) 18 q.1 ∈ tb_T := ⟨by decide, (RX2, TX2, 4), rfl, tb_in 76 (by decide +kernel) rfl⟩
theorem oka_3 : 3 ∈ tb_acs ∧ ∃ q : vw_C, vwCl[3]? = some q ∧ Jvm.Cond.classLink (tb_R 1) 25 q.1 ∈ tb_T := ⟨by decide, (RX3, TX3, 12), rfl, tb_in 104 (by decide +kernel) rfl⟩
theorem ok_alla : ∀ e ∈ tb_a, e.2.2 ∈ tb_acs ∧ ∃ q : vw_C, vwCl[e.2.2]? = some q ∧ Jvm.Cond.classLink (tb_R e.1) e.2.1 q.1 ∈ tb_T := by
  unfold tb_a
  refine List.forall_mem_cons.mpr ⟨oka_0, ?_⟩
  refine List.forall_mem_cons.mpr ⟨oka_1, ?_⟩
  refine List.forall_mem_cons.mpr ⟨oka_2, ?_⟩
  refine List.forall_mem_cons.mpr ⟨oka_3, ?_⟩
  exact fun _ h => absurd h List.not_mem_nil
theorem tb_ok : pm_ok tb vwCl tb_acs tb_R tb_T := by
  refine ⟨fun w hw => (List.mem_filter.mp hw).2, fun c q hq => ?_, fun n x c j h => ?_, fun n x v h => ?_, fun n x c h => ?_, fun n x c h => ?_, tb_in 240 (by decide +kernel) rfl, fun c hc => ?_, fun n x q h => ?_⟩
  · match c, hq with
    | 0, hq => cases hq; exact okk_0
    | 1, hq => cases hq; exact okk_1
    | 2, hq => cases hq; exact okk_2
    | 3, hq => cases hq; exact okk_3
    | 4, hq => cases hq; exact okk_4
    | 5, hq => cases hq; exact okk_5
    | k + 6, hq => cases hq
  · obtain ⟨e, he, h2⟩ := Option.map_eq_some_iff.mp (show (tb_f.find? (fun e => e.1 == n && e.2.1 == x)).map _ = some _ from h)
    obtain ⟨h3, h4⟩ := tb_find he
    obtain ⟨rfl, rfl⟩ := tb_and h4
    cases h2
    exact ok_allf e h3
  · obtain ⟨e, he, h2⟩ := Option.map_eq_some_iff.mp (show (tb_k.find? (fun e => e.1 == n && e.2.1 == x)).map _ = some _ from h)
    obtain ⟨h3, h4⟩ := tb_find he
    obtain ⟨rfl, rfl⟩ := tb_and h4
    cases h2
    exact ok_allk e h3
  · obtain ⟨e, he, h2⟩ := Option.map_eq_some_iff.mp (show (tb_n.find? (fun e => e.1 == n && e.2.1 == x)).map _ = some _ from h)
    obtain ⟨h3, h4⟩ := tb_find he
    obtain ⟨rfl, rfl⟩ := tb_and h4
    cases h2
    exact ok_alln e h3
  · obtain ⟨e, he, h2⟩ := Option.map_eq_some_iff.mp (show (tb_a.find? (fun e => e.1 == n && e.2.1 == x)).map _ = some _ from h)
    obtain ⟨h3, h4⟩ := tb_find he
    obtain ⟨rfl, rfl⟩ := tb_and h4
    cases h2
    exact ok_alla e h3
  · simp only [tb_acs, List.mem_cons, List.not_mem_nil, or_false] at hc
    rcases hc with rfl | rfl | rfl | rfl
    · exact ⟨_, rfl⟩
    · exact ⟨_, rfl⟩
    · exact ⟨_, rfl⟩
    · exact ⟨_, rfl⟩
  · obtain ⟨e, he, h2⟩ := Option.map_eq_some_iff.mp (show (tb_c.find? (fun e => e.1 == n && e.2.1 == x)).map _ = some _ from h)
    obtain ⟨h3, h4⟩ := tb_find he
    obtain ⟨rfl, rfl⟩ := tb_and h4
    cases h2
    exact ok_allc e h3
end
