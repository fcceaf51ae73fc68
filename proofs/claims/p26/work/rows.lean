section
/-- a private method of a class that the tables say can be made, by its rows of tables_1 -/
def lw_okq (q : MethodName × Nat) : Prop := (q.1.cls ≠ "java/lang/invoke/MethodHandle" ∧ q.1.cls ≠ "java/lang/invoke/VarHandle") ∧ Cond.instantiable q.1.cls q.2 ∈ tables_1 ∧ Cond.privateMethod q.1 ∈ tables_1 ∧ Cond.instanceMethod q.1 ∈ tables_1
theorem lw_p0 : lw_okq (⟨"BountyDesk", "remember", "()V"⟩, 6) := ⟨⟨by decide +kernel, by decide +kernel⟩, List.mem_of_getElem? (i := 9) (by decide +kernel), List.mem_of_getElem? (i := 218) (by decide +kernel), List.mem_of_getElem? (i := 219) (by decide +kernel)⟩
theorem lw_p1 : lw_okq (⟨"BountyDesk", "huntersAheadOf", "(I)I"⟩, 6) := ⟨⟨by decide +kernel, by decide +kernel⟩, List.mem_of_getElem? (i := 9) (by decide +kernel), List.mem_of_getElem? (i := 495) (by decide +kernel), List.mem_of_getElem? (i := 496) (by decide +kernel)⟩
theorem lw_p2 : lw_okq (⟨"BountyDesk", "isAhead", "(II)Z"⟩, 6) := ⟨⟨by decide +kernel, by decide +kernel⟩, List.mem_of_getElem? (i := 9) (by decide +kernel), List.mem_of_getElem? (i := 499) (by decide +kernel), List.mem_of_getElem? (i := 500) (by decide +kernel)⟩
def lw_privs_1 : List (MethodName × Nat) := [(⟨"BountyDesk", "remember", "()V"⟩, 6), (⟨"BountyDesk", "huntersAheadOf", "(I)I"⟩, 6), (⟨"BountyDesk", "isAhead", "(II)Z"⟩, 6)]
theorem lw_r1 : ∀ q ∈ lw_privs_1, lw_okq q := List.forall_mem_cons.mpr ⟨lw_p0, List.forall_mem_cons.mpr ⟨lw_p1, List.forall_mem_cons.mpr ⟨lw_p2, fun _ h => absurd h List.not_mem_nil⟩⟩⟩
def lw_privs : List (MethodName × Nat) := lw_privs_1
def lw_tbl : List Cond := k2_sels lw_privs ++ tables_1
theorem lw_privs_ok : ∀ q ∈ lw_privs, lw_okq q := lw_r1
end
section
/-! A PURE MACHINE: bytecode run over a flat memory whose cells are numbered from 0; what it answers, the real machine answers. -/
abbrev pm_M : Type := MethodName × Nat × ByteArray × Nat × Option FieldType × Nat × Nat × List Nat
def pm_y (m : pm_M) : MethodName := m.1
def pm_n (m : pm_M) : Nat := m.2.1
def pm_b (m : pm_M) : ByteArray := m.2.2.1
def pm_l (m : pm_M) : Nat := m.2.2.2.1
def pm_r (m : pm_M) : Option FieldType := m.2.2.2.2.1
def pm_f (m : pm_M) : Nat := m.2.2.2.2.2.1
def pm_o (m : pm_M) : Nat := m.2.2.2.2.2.2.1
/-- the variables that hold longs -/
def pm_w (m : pm_M) : List Nat := m.2.2.2.2.2.2.2
/-- a value of one word -/
def pm_c1 (v : Value) : Bool := match v with
  | .long _ => false
  | _ => true
/-- a memory: its cells, its slots, each cell's kind (0 nothing, 1 ints, 2c+2 an object of number c, 2c+3 an array of those) and length, references, numbers -/
abbrev pm_H : Type := Nat × Nat × (Nat → Nat × Nat) × (Nat → Nat → Option Nat) × (Nat → Nat → Int32)
abbrev pm_L : Type := List (Option Value)
/-- tables: fields; calls (0 by object, 1 static, 2 a constructor, 3 the object's own, 4 and 5 the greater and the lesser of two ints); constants; new; new arrays; a field's sort (0 int, 1 boolean, 2 a final reference); how many fields -/
abbrev pm_T : Type := (Nat → Nat → Option (Nat × Nat)) × (Nat → Nat → Option (Nat × pm_M × Nat)) × (Nat → Nat → Option Int32) × (Nat → Nat → Option Nat) × (Nat → Nat → Option Nat) × (Nat → Nat → Nat) × (Nat → Nat) × (Nat → Nat → Option Int64)
def pm_tf (τ : pm_T) : Nat → Nat → Option (Nat × Nat) := τ.1
def pm_tc (τ : pm_T) : Nat → Nat → Option (Nat × pm_M × Nat) := τ.2.1
def pm_tk (τ : pm_T) : Nat → Nat → Option Int32 := τ.2.2.1
def pm_tn (τ : pm_T) : Nat → Nat → Option Nat := τ.2.2.2.1
def pm_ta (τ : pm_T) : Nat → Nat → Option Nat := τ.2.2.2.2.1
def pm_ts (τ : pm_T) : Nat → Nat → Nat := τ.2.2.2.2.2.1
def pm_tl (τ : pm_T) : Nat → Nat := τ.2.2.2.2.2.2.1
def pm_tq (τ : pm_T) : Nat → Nat → Option Int64 := τ.2.2.2.2.2.2.2
def pm_u2 {α : Type} (f : Nat → Nat → α) (k j : Nat) (v : α) : Nat → Nat → α := fun a b => if a = k ∧ b = j then v else f a b
def pm_k (M : pm_H) (k : Nat) : Nat × Nat := M.2.2.1 k
def pm_rs (M : pm_H) : Nat → Nat → Option Nat := M.2.2.2.1
def pm_is (M : pm_H) : Nat → Nat → Int32 := M.2.2.2.2
def pm_setI (M : pm_H) (k j : Nat) (v : Int32) : pm_H := (M.1, M.2.1, M.2.2.1, M.2.2.2.1, pm_u2 M.2.2.2.2 k j v)
def pm_setR (M : pm_H) (k j : Nat) (o : Option Nat) : pm_H := (M.1, M.2.1, M.2.2.1, pm_u2 M.2.2.2.1 k j o, M.2.2.2.2)
def pm_new (M : pm_H) (kind len : Nat) : pm_H := (M.1 + 1, M.2.1 + len, fun k => if k = M.1 then (kind, len) else M.2.2.1 k, fun k j => if k = M.1 then none else M.2.2.2.1 k j, fun k j => if k = M.1 then 0 else M.2.2.2.2 k j)
def pm_rv (r : Option Nat) : Value := match r with
  | none => .null
  | some o => .ref o
def pm_cmp (c : Jvm.ClassFile.Cond) (x y : Int32) : Bool := match c with
  | .eq => decide (x = y)
  | .ne => decide (¬ x = y)
  | .lt => decide (x < y)
  | .ge => decide (y ≤ x)
  | .gt => decide (y < x)
  | .le => decide (x ≤ y)
/-- the length that an instruction has -/
def pm_ln (i : Instr) (len : Nat) : Bool := match i with
  | .iconst _ | .iload_n _ | .aload_n _ | .istore_n _ | .astore_n _ | .iadd | .isub | .imul | .idiv | .irem | .iand | .ior | .ishl | .ishr | .iushr | .dup | .dup2 | .pop | .iaload | .iastore | .aaload | .aastore | .arraylength | .ireturn | .return_ | .ixor | .i2l | .ladd | .lmul | .lcmp | .lconst _ | .lload_n _ | .lstore_n _ | .lreturn => len == 1
  | .bipush _ | .ldc _ | .iload _ | .aload _ | .istore _ | .astore _ | .newarray _ | .lload _ | .lstore _ => len == 2
  | .sipush _ | .ldc_w _ | .ldc2_w _ | .iinc _ _ | .goto _ | .ifCond _ _ | .if_icmp _ _ | .getfield _ | .putfield _ | .new _ | .anewarray _ | .invokevirtual _ | .invokestatic _ | .invokespecial _ => len == 3
  | .tableswitch _ _ _ _ => true
  | _ => false
def pm_jmp (pc : Nat) (off : Int) : Option Nat := if 0 ≤ (pc : Int) + off then some ((pc : Int) + off).toNat else none
def pm_ldi (ls : pm_L) (k : Nat) : Option Int32 := match ls[k]? with
  | some (some (.int x)) => some x
  | _ => none
def pm_lda (ls : pm_L) (k : Nat) : Option Value := match ls[k]? with
  | some (some (.ref a)) => some (.ref a)
  | some (some (.double a)) => some (.double a)
  | _ => none
def pm_nl (w : List Nat) (k : Nat) : Bool := w.all (fun j => j + 1 != k)
def pm_ldl (w : List Nat) (ls : pm_L) (k : Nat) : Option Int64 := match ls[k]? with
  | some (some (.long x)) => if w.contains k = true then some x else none
  | _ => none
def pm_stl (w : List Nat) (ls : pm_L) (k : Nat) (st : List Value) : Option (pm_L × List Value) := match st with
  | .long x :: rest => if k + 1 < ls.length ∧ pm_nl w k = true then some ((ls.set k (some (.long x))).set (k + 1) none, rest) else none
  | _ => none
def pm_binL (f : Int64 → Int64 → Int64) (st : List Value) : Option (List Value) := match st with
  | .long y :: .long x :: rest => some (.long (f x y) :: rest)
  | _ => none
def pm_sta (w : List Nat) (ls : pm_L) (k : Nat) (st : List Value) : Option (pm_L × List Value) := match st with
  | .ref a :: rest => if k < ls.length ∧ pm_nl w k = true then some (ls.set k (some (.ref a)), rest) else none
  | _ => none
def pm_sti (w : List Nat) (ls : pm_L) (k : Nat) (st : List Value) : Option (pm_L × List Value) := match st with
  | .int x :: rest => if k < ls.length ∧ pm_nl w k = true then some (ls.set k (some (.int x)), rest) else none
  | _ => none
def pm_bin (f : Int32 → Int32 → Int32) (st : List Value) : Option (List Value) := match st with
  | .int y :: .int x :: rest => some (.int (f x y) :: rest)
  | _ => none
/-- one instruction that is no call and no return -/
def pm_nx (τ : pm_T) (m : pm_M) (xl : Nat) (xs : Nat → Int32) (pc : Nat) (ls : pm_L) (st : List Value) (M : pm_H) (i : Instr) : Option (Nat × pm_L × List Value × pm_H) :=
  match i with
  | .iconst n => some (pc + 1, ls, .int (Int32.ofInt n) :: st, M)
  | .bipush n => some (pc + 2, ls, .int (Int8.ofInt n).toInt32 :: st, M)
  | .sipush n => some (pc + 3, ls, .int (Int16.ofInt n).toInt32 :: st, M)
  | .ldc x => (pm_tk τ (pm_n m) x).bind fun v => some (pc + 2, ls, .int v :: st, M)
  | .ldc_w x => (pm_tk τ (pm_n m) x).bind fun v => some (pc + 3, ls, .int v :: st, M)
  | .iload_n k => (pm_ldi ls k.val).bind fun x => some (pc + 1, ls, .int x :: st, M)
  | .iload k => (pm_ldi ls k).bind fun x => some (pc + 2, ls, .int x :: st, M)
  | .aload_n k => (pm_lda ls k.val).bind fun v => some (pc + 1, ls, v :: st, M)
  | .aload k => (pm_lda ls k).bind fun v => some (pc + 2, ls, v :: st, M)
  | .istore_n k => (pm_sti (pm_w m) ls k.val st).bind fun q => some (pc + 1, q.1, q.2, M)
  | .istore k => (pm_sti (pm_w m) ls k st).bind fun q => some (pc + 2, q.1, q.2, M)
  | .astore_n k => (pm_sta (pm_w m) ls k.val st).bind fun q => some (pc + 1, q.1, q.2, M)
  | .astore k => (pm_sta (pm_w m) ls k st).bind fun q => some (pc + 2, q.1, q.2, M)
  | .iinc k n => (pm_ldi ls k).bind fun x => if k < ls.length ∧ pm_nl (pm_w m) k = true then some (pc + 3, ls.set k (some (.int (x + Int32.ofInt n))), st, M) else none
  | .iadd => (pm_bin (fun x y => x + y) st).bind fun q => some (pc + 1, ls, q, M)
  | .isub => (pm_bin (fun x y => x - y) st).bind fun q => some (pc + 1, ls, q, M)
  | .imul => (pm_bin (fun x y => x * y) st).bind fun q => some (pc + 1, ls, q, M)
  | .iand => (pm_bin (fun x y => x &&& y) st).bind fun q => some (pc + 1, ls, q, M)
  | .ior => (pm_bin (fun x y => x ||| y) st).bind fun q => some (pc + 1, ls, q, M)
  | .ixor => (pm_bin (fun x y => x ^^^ y) st).bind fun q => some (pc + 1, ls, q, M)
  | .i2l => match st with
    | .int x :: rest => some (pc + 1, ls, .long x.toInt64 :: rest, M)
    | _ => none
  | .ladd => (pm_binL (fun x y => x + y) st).bind fun q => some (pc + 1, ls, q, M)
  | .lmul => (pm_binL (fun x y => x * y) st).bind fun q => some (pc + 1, ls, q, M)
  | .lcmp => match st with
    | .long y :: .long x :: rest => some (pc + 1, ls, .int (lg_cmp x y) :: rest, M)
    | _ => none
  | .lconst n => some (pc + 1, ls, .long (Int64.ofNat n.val) :: st, M)
  | .ldc2_w x => (pm_tq τ (pm_n m) x).bind fun v => some (pc + 3, ls, .long v :: st, M)
  | .lload_n k => (pm_ldl (pm_w m) ls k.val).bind fun x => some (pc + 1, ls, .long x :: st, M)
  | .lload k => (pm_ldl (pm_w m) ls k).bind fun x => some (pc + 2, ls, .long x :: st, M)
  | .lstore_n k => (pm_stl (pm_w m) ls k.val st).bind fun q => some (pc + 1, q.1, q.2, M)
  | .lstore k => (pm_stl (pm_w m) ls k st).bind fun q => some (pc + 2, q.1, q.2, M)
  | .ishl => (pm_bin (fun x y => x <<< (y &&& 31)) st).bind fun q => some (pc + 1, ls, q, M)
  | .ishr => (pm_bin (fun x y => x >>> (y &&& 31)) st).bind fun q => some (pc + 1, ls, q, M)
  | .iushr => (pm_bin (fun x y => (x.toUInt32 >>> (y.toUInt32 &&& Int32.toUInt32 31)).toInt32) st).bind fun q => some (pc + 1, ls, q, M)
  | .idiv => match st with
    | .int y :: .int x :: rest => if y = 0 then none else some (pc + 1, ls, .int (x / y) :: rest, M)
    | _ => none
  | .irem => match st with
    | .int y :: .int x :: rest => if y = 0 then none else some (pc + 1, ls, .int (x - x / y * y) :: rest, M)
    | _ => none
  | .dup => match st with
    | v :: rest => if pm_c1 v = true then some (pc + 1, ls, v :: v :: rest, M) else none
    | _ => none
  | .dup2 => match st with
    | v :: w :: rest => if pm_c1 v = true ∧ pm_c1 w = true then some (pc + 1, ls, v :: w :: v :: w :: rest, M) else none
    | _ => none
  | .pop => match st with
    | v :: rest => if pm_c1 v = true then some (pc + 1, ls, rest, M) else none
    | _ => none
  | .goto off => (pm_jmp pc off).bind fun t => some (t, ls, st, M)
  | .ifCond c off => match st with
    | .int x :: rest => (pm_jmp pc off).bind fun t => some (if pm_cmp c x 0 = true then t else pc + 3, ls, rest, M)
    | _ => none
  | .if_icmp c off => match st with
    | .int y :: .int x :: rest => (pm_jmp pc off).bind fun t => some (if pm_cmp c x y = true then t else pc + 3, ls, rest, M)
    | _ => none
  | .tableswitch dflt lo hi offs => match st with
    | .int x :: rest => (if x.toInt < lo ∨ hi < x.toInt then some dflt else offs[(x.toInt - lo).toNat]?).bind fun off => (pm_jmp pc off).bind fun t => some (t, ls, rest, M)
    | _ => none
  | .getfield x => (pm_tf τ (pm_n m) x).bind fun f => match st with
    | .ref o :: rest => if (pm_k M o).1 = 2 * f.1 + 2 then some (pc + 3, ls, (if pm_ts τ f.1 f.2 = 2 then pm_rv (pm_rs M o f.2) else .int (pm_is M o f.2)) :: rest, M) else none
    | _ => none
  | .putfield x => (pm_tf τ (pm_n m) x).bind fun f => match st with
    | .int v :: .ref o :: rest => if (pm_k M o).1 = 2 * f.1 + 2 ∧ (pm_ts τ f.1 f.2 = 0 ∨ (pm_ts τ f.1 f.2 = 1 ∧ (v = 0 ∨ v = 1))) then some (pc + 3, ls, rest, pm_setI M o f.2 v) else none
    | .ref v :: .ref o :: rest => if (pm_k M o).1 = 2 * f.1 + 2 ∧ pm_ts τ f.1 f.2 = 2 ∧ (pm_y m).name = "<init>" ∧ pm_n m = f.1 then some (pc + 3, ls, rest, pm_setR M o f.2 (some v)) else none
    | _ => none
  | .iaload => match st with
    | .int i :: .ref o :: rest => if (pm_k M o).1 = 1 ∧ ¬ (i < 0 ∨ (pm_k M o).2 ≤ i.toNatClampNeg) then some (pc + 1, ls, .int (pm_is M o i.toNatClampNeg) :: rest, M) else none
    | .int i :: .double _ :: rest => if i < 0 ∨ xl ≤ i.toNatClampNeg then none else some (pc + 1, ls, .int (xs i.toNatClampNeg) :: rest, M)
    | _ => none
  | .iastore => match st with
    | .int v :: .int i :: .ref o :: rest => if (pm_k M o).1 = 1 ∧ ¬ (i < 0 ∨ (pm_k M o).2 ≤ i.toNatClampNeg) then some (pc + 1, ls, rest, pm_setI M o i.toNatClampNeg v) else none
    | _ => none
  | .aaload => match st with
    | .int i :: .ref o :: rest => if 3 ≤ (pm_k M o).1 ∧ (pm_k M o).1 % 2 = 1 ∧ ¬ (i < 0 ∨ (pm_k M o).2 ≤ i.toNatClampNeg) then some (pc + 1, ls, pm_rv (pm_rs M o i.toNatClampNeg) :: rest, M) else none
    | _ => none
  | .aastore => match st with
    | .ref v :: .int i :: .ref o :: rest => if 3 ≤ (pm_k M o).1 ∧ (pm_k M o).1 % 2 = 1 ∧ ¬ (i < 0 ∨ (pm_k M o).2 ≤ i.toNatClampNeg) ∧ (pm_k M v).1 + 1 = (pm_k M o).1 then some (pc + 1, ls, rest, pm_setR M o i.toNatClampNeg (some v)) else none
    | _ => none
  | .arraylength => match st with
    | .double _ :: rest => some (pc + 1, ls, .int (Int32.ofNat xl) :: rest, M)
    | .ref o :: rest => if (pm_k M o).1 = 1 then some (pc + 1, ls, .int (Int32.ofNat (pm_k M o).2) :: rest, M) else none
    | _ => none
  | .new x => (pm_tn τ (pm_n m) x).bind fun c => some (pc + 3, ls, .ref M.1 :: st, pm_new M (2 * c + 2) (pm_tl τ c))
  | .newarray t => match st with
    | .int n :: rest => if t = .int ∧ ¬ n < 0 ∧ n.toNatClampNeg ≤ 100000 then some (pc + 2, ls, .ref M.1 :: rest, pm_new M 1 n.toNatClampNeg) else none
    | _ => none
  | .anewarray x => (pm_ta τ (pm_n m) x).bind fun c => match st with
    | .int n :: rest => if ¬ n < 0 ∧ n.toNatClampNeg ≤ 100000 then some (pc + 3, ls, .ref M.1 :: rest, pm_new M (2 * c + 3) n.toNatClampNeg) else none
    | _ => none
  | .invokespecial x => (pm_tc τ (pm_n m) x).bind fun q => match st with
    | .ref _ :: rest => if q.1 = 3 ∧ 1 ≤ pm_f m ∧ 2 * rest.length + 12 ≤ pm_o m then some (pc + 3, ls, rest, M) else none
    | _ => none
  | .invokestatic x => (pm_tc τ (pm_n m) x).bind fun q => match st with
    | .int b :: .int a :: rest => if q.1 = 4 ∧ 1 ≤ pm_f m ∧ 2 * rest.length + 13 ≤ pm_o m then some (pc + 3, ls, .int (if a < b then b else a) :: rest, M) else if q.1 = 5 ∧ 1 ≤ pm_f m ∧ 2 * rest.length + 13 ≤ pm_o m then some (pc + 3, ls, .int (if b < a then b else a) :: rest, M) else none
    | _ => none
  | _ => none
/-- a call: who, with what, over what -/
def pm_cl (τ : pm_T) (m : pm_M) (st : List Value) (M : pm_H) (i : Instr) : Option (pm_M × List Value × List Value) :=
  match i with
  | .invokevirtual x => (pm_tc τ (pm_n m) x).bind fun q => match st.drop q.2.2 with
    | .ref o :: rest => if q.1 = 0 ∧ (pm_k M o).1 = 2 * pm_n q.2.1 + 2 ∧ q.2.2 ≤ st.length ∧ q.2.2 + 1 ≤ pm_l q.2.1 ∧ 2 * rest.length ≤ 8 ∧ pm_f q.2.1 + 1 ≤ pm_f m ∧ 8 + (pm_l q.2.1 + 11) + pm_o q.2.1 ≤ pm_o m ∧ (st.take q.2.2).all pm_c1 = true then some (q.2.1, .ref o :: (st.take q.2.2).reverse, rest) else none
    | _ => none
  | .invokestatic x => (pm_tc τ (pm_n m) x).bind fun q => if q.1 = 1 ∧ q.2.2 ≤ st.length ∧ q.2.2 ≤ pm_l q.2.1 ∧ 2 * (st.drop q.2.2).length ≤ 8 ∧ pm_f q.2.1 + 1 ≤ pm_f m ∧ 8 + (pm_l q.2.1 + 11) + pm_o q.2.1 ≤ pm_o m ∧ (st.take q.2.2).all pm_c1 = true then some (q.2.1, (st.take q.2.2).reverse, st.drop q.2.2) else none
  | .invokespecial x => (pm_tc τ (pm_n m) x).bind fun q => match st.drop q.2.2 with
    | .ref o :: rest => if q.1 = 2 ∧ q.2.2 ≤ st.length ∧ q.2.2 + 1 ≤ pm_l q.2.1 ∧ 2 * rest.length ≤ 8 ∧ pm_f q.2.1 + 1 ≤ pm_f m ∧ 8 + (pm_l q.2.1 + 11) + pm_o q.2.1 ≤ pm_o m ∧ (st.take q.2.2).all pm_c1 = true then some (q.2.1, .ref o :: (st.take q.2.2).reverse, rest) else none
    | _ => none
  | _ => none
/-- a return -/
def pm_rt (m : pm_M) (st : List Value) (i : Instr) : Option (Option Value) :=
  match i with
  | .ireturn => match st with
    | [.int v] => if pm_r m = some .int ∨ (pm_r m = some .boolean ∧ (v = 0 ∨ v = 1)) then some (some (.int v)) else none
    | _ => none
  | .return_ => match st with
    | [] => if pm_r m = none then some none else none
    | _ => none
  | .lreturn => match st with
    | [.long v] => if pm_r m = some .long then some (some (.long v)) else none
    | _ => none
  | _ => none
def pm_en (m : pm_M) (vs : List Value) : pm_L := vs.map some ++ List.replicate (pm_l m - vs.length) none
def pm_run (τ : pm_T) (xl : Nat) (xs : Nat → Int32) : Nat → pm_M → Nat → pm_L → List Value → pm_H → Option (Option Value × pm_H)
  | 0, _, _, _, _, _ => none
  | n + 1, m, pc, ls, st, M => match decode (pm_b m) pc with
    | .error _ => none
    | .ok (i, len) => if pm_ln i len = false then none else match pm_cl τ m st M i with
      | some (m', vs, rest) => match pm_run τ xl xs n m' 0 (pm_en m' vs) [] M with
        | none => none
        | some (r, M') => pm_run τ xl xs n m (pc + 3) ls (r.toList ++ rest) M'
      | none => match pm_rt m st i with
        | some r => some (r, M)
        | none => match pm_nx τ m xl xs pc ls st M i with
          | none => none
          | some (pc', ls', st', M') => pm_run τ xl xs n m pc' ls' st' M'
end
section
/-! WHAT THE PURE MACHINE ANSWERS IN THE END, whatever the number of its steps -/
theorem pm_run_more (τ : pm_T) (xl : Nat) (xs : Nat → Int32) (n : Nat) : ∀ (m : pm_M) (pc : Nat) (ls : pm_L) (st : List Value) (M : pm_H) (r : Option Value × pm_H), pm_run τ xl xs n m pc ls st M = some r → pm_run τ xl xs (n + 1) m pc ls st M = some r := by
  induction n with
  | zero => intro m pc ls st M r h; simp [pm_run] at h
  | succ n ih =>
    intro m pc ls st M r h
    rw [pm_run] at h
    rw [pm_run]
    cases hd : decode (pm_b m) pc with
    | error e => rw [hd] at h; exact h
    | ok q =>
      obtain ⟨i, len⟩ := q
      rw [hd] at h
      dsimp only at h ⊢
      split at h
      · cases h
      · rename_i hl
        rw [if_neg hl]
        cases hc : pm_cl τ m st M i with
        | some q =>
          obtain ⟨m', vs, rest⟩ := q
          rw [hc] at h
          dsimp only at h ⊢
          cases hr : pm_run τ xl xs n m' 0 (pm_en m' vs) [] M with
          | none => rw [hr] at h; cases h
          | some w =>
            obtain ⟨r', M'⟩ := w
            rw [hr] at h
            rw [ih _ _ _ _ _ _ hr]
            exact ih _ _ _ _ _ _ h
        | none =>
          rw [hc] at h
          dsimp only at h ⊢
          cases ht : pm_rt m st i with
          | some r' => rw [ht] at h; exact h
          | none =>
            rw [ht] at h
            dsimp only at h ⊢
            cases hx : pm_nx τ m xl xs pc ls st M i with
            | none => rw [hx] at h; cases h
            | some w =>
              obtain ⟨pc', ls', st', M'⟩ := w
              rw [hx] at h
              exact ih _ _ _ _ _ _ h
theorem pm_run_le {τ : pm_T} {xl : Nat} {xs : Nat → Int32} {n k : Nat} (hk : n ≤ k) {m : pm_M} {pc : Nat} {ls : pm_L} {st : List Value} {M : pm_H} {r : Option Value × pm_H} (h : pm_run τ xl xs n m pc ls st M = some r) : pm_run τ xl xs k m pc ls st M = some r := by
  induction hk with
  | refl => exact h
  | step _ ih => exact pm_run_more _ _ _ _ _ _ _ _ _ _ ih
noncomputable def pm_ev (τ : pm_T) (xl : Nat) (xs : Nat → Int32) (m : pm_M) (pc : Nat) (ls : pm_L) (st : List Value) (M : pm_H) : Option (Option Value × pm_H) :=
  @dite _ (∃ r n, pm_run τ xl xs n m pc ls st M = some r) (Classical.propDecidable _) (fun h => some (Classical.choose h)) (fun _ => none)
section PMEV
variable {τ : pm_T} {xl : Nat} {xs : Nat → Int32} {m : pm_M} {pc : Nat} {ls : pm_L} {st : List Value} {M : pm_H}
theorem pm_ev_iff {r : Option Value × pm_H} : pm_ev τ xl xs m pc ls st M = some r ↔ ∃ n, pm_run τ xl xs n m pc ls st M = some r := by
  unfold pm_ev
  constructor
  · intro h
    split at h
    · rename_i hq
      have := Classical.choose_spec hq
      rw [Option.some.inj h] at this
      exact this
    · cases h
  · rintro ⟨n, h⟩
    have hq : ∃ r n, pm_run τ xl xs n m pc ls st M = some r := ⟨r, n, h⟩
    rw [dif_pos hq]
    obtain ⟨n', h'⟩ := Classical.choose_spec hq
    have h1 := pm_run_le (Nat.le_max_left n n') h
    have h2 := pm_run_le (Nat.le_max_right n n') h'
    rw [h1] at h2
    rw [← Option.some.inj h2]
theorem pm_ev_ext {a b : Option (Option Value × pm_H)} (h : ∀ r, a = some r ↔ b = some r) : a = b := by
  cases a with
  | none =>
    cases b with
    | none => rfl
    | some y => exact (h y).mpr rfl
  | some x => exact ((h x).mp rfl).symm
variable {i : Instr} {len : Nat}
theorem pm_ev_nx {pc' : Nat} {ls' : pm_L} {st' : List Value} {M' : pm_H} (hd : decode (pm_b m) pc = .ok (i, len)) (hl : pm_ln i len = true) (hc : pm_cl τ m st M i = none) (ht : pm_rt m st i = none) (hx : pm_nx τ m xl xs pc ls st M i = some (pc', ls', st', M')) : pm_ev τ xl xs m pc ls st M = pm_ev τ xl xs m pc' ls' st' M' := by
  have key : ∀ n, pm_run τ xl xs (n + 1) m pc ls st M = pm_run τ xl xs n m pc' ls' st' M' := by
    intro n
    rw [pm_run, hd]
    dsimp only
    rw [if_neg (by rw [hl]; decide), hc]
    dsimp only
    rw [ht]
    dsimp only
    rw [hx]
  refine pm_ev_ext fun r => ?_
  rw [pm_ev_iff, pm_ev_iff]
  constructor
  · rintro ⟨n, h⟩
    cases n with
    | zero => simp [pm_run] at h
    | succ n => exact ⟨n, (key n).symm.trans h⟩
  · rintro ⟨n, h⟩
    exact ⟨n + 1, (key n).trans h⟩
theorem pm_ev_rt {r : Option Value} (hd : decode (pm_b m) pc = .ok (i, len)) (hl : pm_ln i len = true) (hc : pm_cl τ m st M i = none) (ht : pm_rt m st i = some r) : pm_ev τ xl xs m pc ls st M = some (r, M) := by
  rw [pm_ev_iff]
  refine ⟨1, ?_⟩
  rw [pm_run, hd]
  dsimp only
  rw [if_neg (by rw [hl]; decide), hc]
  dsimp only
  rw [ht]
theorem pm_ev_cl {m' : pm_M} {vs rest : List Value} (hd : decode (pm_b m) pc = .ok (i, len)) (hl : pm_ln i len = true) (hc : pm_cl τ m st M i = some (m', vs, rest)) : pm_ev τ xl xs m pc ls st M = (pm_ev τ xl xs m' 0 (pm_en m' vs) [] M).bind fun q => pm_ev τ xl xs m (pc + 3) ls (q.1.toList ++ rest) q.2 := by
  have key : ∀ n, pm_run τ xl xs (n + 1) m pc ls st M = (pm_run τ xl xs n m' 0 (pm_en m' vs) [] M).bind fun q => pm_run τ xl xs n m (pc + 3) ls (q.1.toList ++ rest) q.2 := by
    intro n
    rw [pm_run, hd]
    dsimp only
    rw [if_neg (by rw [hl]; decide), hc]
    dsimp only
    cases pm_run τ xl xs n m' 0 (pm_en m' vs) [] M <;> rfl
  refine pm_ev_ext fun r => ?_
  rw [pm_ev_iff, Option.bind_eq_some_iff]
  constructor
  · rintro ⟨n, h⟩
    cases n with
    | zero => simp [pm_run] at h
    | succ n =>
      rw [key n, Option.bind_eq_some_iff] at h
      obtain ⟨q, h1, h2⟩ := h
      exact ⟨q, pm_ev_iff.mpr ⟨n, h1⟩, pm_ev_iff.mpr ⟨n, h2⟩⟩
  · rintro ⟨q, h1, h2⟩
    obtain ⟨n1, h1⟩ := pm_ev_iff.mp h1
    obtain ⟨n2, h2⟩ := pm_ev_iff.mp h2
    refine ⟨max n1 n2 + 1, ?_⟩
    rw [key, Option.bind_eq_some_iff]
    exact ⟨q, pm_run_le (Nat.le_max_left _ _) h1, pm_run_le (Nat.le_max_right _ _) h2⟩
/-! instruction by instruction -/
theorem ev_iconst {n : Int} {v : Int32} (hv : Int32.ofInt n = v) (hd : decode (pm_b m) pc = .ok (.iconst n, 1)) : pm_ev τ xl xs m pc ls st M = pm_ev τ xl xs m (pc + 1) ls (.int v :: st) M := by subst hv; exact pm_ev_nx hd rfl rfl rfl rfl
theorem ev_bipush {n : Int} {v : Int32} (hv : (Int8.ofInt n).toInt32 = v) (hd : decode (pm_b m) pc = .ok (.bipush n, 2)) : pm_ev τ xl xs m pc ls st M = pm_ev τ xl xs m (pc + 2) ls (.int v :: st) M := by subst hv; exact pm_ev_nx hd rfl rfl rfl rfl
theorem ev_sipush {n : Int} {v : Int32} (hv : (Int16.ofInt n).toInt32 = v) (hd : decode (pm_b m) pc = .ok (.sipush n, 3)) : pm_ev τ xl xs m pc ls st M = pm_ev τ xl xs m (pc + 3) ls (.int v :: st) M := by subst hv; exact pm_ev_nx hd rfl rfl rfl rfl
theorem ev_ldc {x : Nat} {v : Int32} (hk : pm_tk τ (pm_n m) x = some v) (hd : decode (pm_b m) pc = .ok (.ldc x, 2)) : pm_ev τ xl xs m pc ls st M = pm_ev τ xl xs m (pc + 2) ls (.int v :: st) M := pm_ev_nx hd rfl rfl rfl (by simp only [pm_nx, hk, Option.bind_some])
theorem ev_ldc_w {x : Nat} {v : Int32} (hk : pm_tk τ (pm_n m) x = some v) (hd : decode (pm_b m) pc = .ok (.ldc_w x, 3)) : pm_ev τ xl xs m pc ls st M = pm_ev τ xl xs m (pc + 3) ls (.int v :: st) M := pm_ev_nx hd rfl rfl rfl (by simp only [pm_nx, hk, Option.bind_some])
theorem ev_iload_n {k : Fin 4} {x : Int32} (hk : pm_ldi ls k.val = some x) (hd : decode (pm_b m) pc = .ok (.iload_n k, 1)) : pm_ev τ xl xs m pc ls st M = pm_ev τ xl xs m (pc + 1) ls (.int x :: st) M := pm_ev_nx hd rfl rfl rfl (by simp only [pm_nx, hk, Option.bind_some])
theorem ev_iload {k : Nat} {x : Int32} (hk : pm_ldi ls k = some x) (hd : decode (pm_b m) pc = .ok (.iload k, 2)) : pm_ev τ xl xs m pc ls st M = pm_ev τ xl xs m (pc + 2) ls (.int x :: st) M := pm_ev_nx hd rfl rfl rfl (by simp only [pm_nx, hk, Option.bind_some])
theorem ev_aload_n {k : Fin 4} {v : Value} (hk : pm_lda ls k.val = some v) (hd : decode (pm_b m) pc = .ok (.aload_n k, 1)) : pm_ev τ xl xs m pc ls st M = pm_ev τ xl xs m (pc + 1) ls (v :: st) M := pm_ev_nx hd rfl rfl rfl (by simp only [pm_nx, hk, Option.bind_some])
theorem ev_aload {k : Nat} {v : Value} (hk : pm_lda ls k = some v) (hd : decode (pm_b m) pc = .ok (.aload k, 2)) : pm_ev τ xl xs m pc ls st M = pm_ev τ xl xs m (pc + 2) ls (v :: st) M := pm_ev_nx hd rfl rfl rfl (by simp only [pm_nx, hk, Option.bind_some])
theorem ev_istore_n {k : Fin 4} {x : Int32} {ls' : pm_L} (hk : pm_sti (pm_w m) ls k.val (.int x :: st) = some (ls', st)) (hd : decode (pm_b m) pc = .ok (.istore_n k, 1)) : pm_ev τ xl xs m pc ls (.int x :: st) M = pm_ev τ xl xs m (pc + 1) ls' st M := pm_ev_nx hd rfl rfl rfl (by simp only [pm_nx, hk, Option.bind_some])
theorem ev_istore {k : Nat} {x : Int32} {ls' : pm_L} (hk : pm_sti (pm_w m) ls k (.int x :: st) = some (ls', st)) (hd : decode (pm_b m) pc = .ok (.istore k, 2)) : pm_ev τ xl xs m pc ls (.int x :: st) M = pm_ev τ xl xs m (pc + 2) ls' st M := pm_ev_nx hd rfl rfl rfl (by simp only [pm_nx, hk, Option.bind_some])
theorem ev_astore_n {k : Fin 4} {x : Nat} {ls' : pm_L} (hk : pm_sta (pm_w m) ls k.val (.ref x :: st) = some (ls', st)) (hd : decode (pm_b m) pc = .ok (.astore_n k, 1)) : pm_ev τ xl xs m pc ls (.ref x :: st) M = pm_ev τ xl xs m (pc + 1) ls' st M := pm_ev_nx hd rfl rfl rfl (by simp only [pm_nx, hk, Option.bind_some])
theorem ev_astore {k : Nat} {x : Nat} {ls' : pm_L} (hk : pm_sta (pm_w m) ls k (.ref x :: st) = some (ls', st)) (hd : decode (pm_b m) pc = .ok (.astore k, 2)) : pm_ev τ xl xs m pc ls (.ref x :: st) M = pm_ev τ xl xs m (pc + 2) ls' st M := pm_ev_nx hd rfl rfl rfl (by simp only [pm_nx, hk, Option.bind_some])
theorem ev_iinc {k : Nat} {n : Int} {x v : Int32} {ls' : pm_L} (hv : Int32.ofInt n = v) (hk : pm_ldi ls k = some x) (hs : (if k < ls.length ∧ pm_nl (pm_w m) k = true then some (ls.set k (some (.int (x + v)))) else none) = some ls') (hd : decode (pm_b m) pc = .ok (.iinc k n, 3)) : pm_ev τ xl xs m pc ls st M = pm_ev τ xl xs m (pc + 3) ls' st M := pm_ev_nx hd rfl rfl rfl (by
  subst hv
  simp only [pm_nx, hk, Option.bind_some]
  split at hs
  · rename_i h; rw [if_pos h]; cases hs; rfl
  · cases hs)
theorem ev_iadd {x y : Int32} (hd : decode (pm_b m) pc = .ok (.iadd, 1)) : pm_ev τ xl xs m pc ls (.int y :: .int x :: st) M = pm_ev τ xl xs m (pc + 1) ls (.int (x + y) :: st) M := pm_ev_nx hd rfl rfl rfl rfl
theorem ev_isub {x y : Int32} (hd : decode (pm_b m) pc = .ok (.isub, 1)) : pm_ev τ xl xs m pc ls (.int y :: .int x :: st) M = pm_ev τ xl xs m (pc + 1) ls (.int (x - y) :: st) M := pm_ev_nx hd rfl rfl rfl rfl
theorem ev_imul {x y : Int32} (hd : decode (pm_b m) pc = .ok (.imul, 1)) : pm_ev τ xl xs m pc ls (.int y :: .int x :: st) M = pm_ev τ xl xs m (pc + 1) ls (.int (x * y) :: st) M := pm_ev_nx hd rfl rfl rfl rfl
theorem ev_iand {x y : Int32} (hd : decode (pm_b m) pc = .ok (.iand, 1)) : pm_ev τ xl xs m pc ls (.int y :: .int x :: st) M = pm_ev τ xl xs m (pc + 1) ls (.int (x &&& y) :: st) M := pm_ev_nx hd rfl rfl rfl rfl
theorem ev_ior {x y : Int32} (hd : decode (pm_b m) pc = .ok (.ior, 1)) : pm_ev τ xl xs m pc ls (.int y :: .int x :: st) M = pm_ev τ xl xs m (pc + 1) ls (.int (x ||| y) :: st) M := pm_ev_nx hd rfl rfl rfl rfl
theorem ev_ishl {x y : Int32} (hd : decode (pm_b m) pc = .ok (.ishl, 1)) : pm_ev τ xl xs m pc ls (.int y :: .int x :: st) M = pm_ev τ xl xs m (pc + 1) ls (.int (x <<< (y &&& 31)) :: st) M := pm_ev_nx hd rfl rfl rfl rfl
theorem ev_ishr {x y : Int32} (hd : decode (pm_b m) pc = .ok (.ishr, 1)) : pm_ev τ xl xs m pc ls (.int y :: .int x :: st) M = pm_ev τ xl xs m (pc + 1) ls (.int (x >>> (y &&& 31)) :: st) M := pm_ev_nx hd rfl rfl rfl rfl
theorem ev_iushr {x y : Int32} (hd : decode (pm_b m) pc = .ok (.iushr, 1)) : pm_ev τ xl xs m pc ls (.int y :: .int x :: st) M = pm_ev τ xl xs m (pc + 1) ls (.int (x.toUInt32 >>> (y.toUInt32 &&& Int32.toUInt32 31)).toInt32 :: st) M := pm_ev_nx hd rfl rfl rfl rfl
theorem ev_idiv {x y : Int32} (hy : ¬ y = 0) (hd : decode (pm_b m) pc = .ok (.idiv, 1)) : pm_ev τ xl xs m pc ls (.int y :: .int x :: st) M = pm_ev τ xl xs m (pc + 1) ls (.int (x / y) :: st) M := pm_ev_nx hd rfl rfl rfl (by simp only [pm_nx, if_neg hy])
theorem ev_irem {x y : Int32} (hy : ¬ y = 0) (hd : decode (pm_b m) pc = .ok (.irem, 1)) : pm_ev τ xl xs m pc ls (.int y :: .int x :: st) M = pm_ev τ xl xs m (pc + 1) ls (.int (x - x / y * y) :: st) M := pm_ev_nx hd rfl rfl rfl (by simp only [pm_nx, if_neg hy])
theorem ev_dup {v : Value} (hv : pm_c1 v = true) (hd : decode (pm_b m) pc = .ok (.dup, 1)) : pm_ev τ xl xs m pc ls (v :: st) M = pm_ev τ xl xs m (pc + 1) ls (v :: v :: st) M := pm_ev_nx hd rfl rfl rfl (by simp only [pm_nx]; rw [if_pos hv])
theorem ev_dup2 {v w : Value} (hv : pm_c1 v = true ∧ pm_c1 w = true) (hd : decode (pm_b m) pc = .ok (.dup2, 1)) : pm_ev τ xl xs m pc ls (v :: w :: st) M = pm_ev τ xl xs m (pc + 1) ls (v :: w :: v :: w :: st) M := pm_ev_nx hd rfl rfl rfl (by simp only [pm_nx]; rw [if_pos hv])
theorem ev_pop {v : Value} (hv : pm_c1 v = true) (hd : decode (pm_b m) pc = .ok (.pop, 1)) : pm_ev τ xl xs m pc ls (v :: st) M = pm_ev τ xl xs m (pc + 1) ls st M := pm_ev_nx hd rfl rfl rfl (by simp only [pm_nx]; rw [if_pos hv])
theorem ev_goto {off : Int} {t : Nat} (ht : pm_jmp pc off = some t) (hd : decode (pm_b m) pc = .ok (.goto off, 3)) : pm_ev τ xl xs m pc ls st M = pm_ev τ xl xs m t ls st M := pm_ev_nx hd rfl rfl rfl (by simp only [pm_nx, ht, Option.bind_some])
theorem ev_if {c : Jvm.ClassFile.Cond} {off : Int} {t : Nat} {x : Int32} (ht : pm_jmp pc off = some t) (hd : decode (pm_b m) pc = .ok (.ifCond c off, 3)) : pm_ev τ xl xs m pc ls (.int x :: st) M = if pm_cmp c x 0 = true then pm_ev τ xl xs m t ls st M else pm_ev τ xl xs m (pc + 3) ls st M := by
  have h := pm_ev_nx (τ := τ) (xl := xl) (xs := xs) (ls := ls) (st := .int x :: st) (M := M) hd rfl rfl rfl (by simp only [pm_nx, ht, Option.bind_some]; rfl)
  rw [h]
  split <;> rfl
theorem ev_icmp {c : Jvm.ClassFile.Cond} {off : Int} {t : Nat} {x y : Int32} (ht : pm_jmp pc off = some t) (hd : decode (pm_b m) pc = .ok (.if_icmp c off, 3)) : pm_ev τ xl xs m pc ls (.int y :: .int x :: st) M = if pm_cmp c x y = true then pm_ev τ xl xs m t ls st M else pm_ev τ xl xs m (pc + 3) ls st M := by
  have h := pm_ev_nx (τ := τ) (xl := xl) (xs := xs) (ls := ls) (st := .int y :: .int x :: st) (M := M) hd rfl rfl rfl (by simp only [pm_nx, ht, Option.bind_some]; rfl)
  rw [h]
  split <;> rfl
theorem ev_switch {dflt lo hi off : Int} {offs : Array Int} {len t : Nat} {x : Int32} (ho : (if x.toInt < lo ∨ hi < x.toInt then some dflt else offs[(x.toInt - lo).toNat]?) = some off) (ht : pm_jmp pc off = some t) (hd : decode (pm_b m) pc = .ok (.tableswitch dflt lo hi offs, len)) : pm_ev τ xl xs m pc ls (.int x :: st) M = pm_ev τ xl xs m t ls st M := pm_ev_nx hd rfl rfl rfl (by simp only [pm_nx, ho, ht, Option.bind_some])
theorem ev_getI {x o c j : Nat} (hf : pm_tf τ (pm_n m) x = some (c, j)) (hs : ¬ pm_ts τ c j = 2) (hk : (pm_k M o).1 = 2 * c + 2) (hd : decode (pm_b m) pc = .ok (.getfield x, 3)) : pm_ev τ xl xs m pc ls (.ref o :: st) M = pm_ev τ xl xs m (pc + 3) ls (.int (pm_is M o j) :: st) M := pm_ev_nx hd rfl rfl rfl (by simp only [pm_nx, hf, Option.bind_some, if_pos hk, if_neg hs])
theorem ev_getR {x o c j : Nat} (hf : pm_tf τ (pm_n m) x = some (c, j)) (hs : pm_ts τ c j = 2) (hk : (pm_k M o).1 = 2 * c + 2) (hd : decode (pm_b m) pc = .ok (.getfield x, 3)) : pm_ev τ xl xs m pc ls (.ref o :: st) M = pm_ev τ xl xs m (pc + 3) ls (pm_rv (pm_rs M o j) :: st) M := pm_ev_nx hd rfl rfl rfl (by simp only [pm_nx, hf, Option.bind_some, if_pos hk, if_pos hs])
theorem ev_putI {x o c j : Nat} {v : Int32} (hf : pm_tf τ (pm_n m) x = some (c, j)) (hs : pm_ts τ c j = 0) (hk : (pm_k M o).1 = 2 * c + 2) (hd : decode (pm_b m) pc = .ok (.putfield x, 3)) : pm_ev τ xl xs m pc ls (.int v :: .ref o :: st) M = pm_ev τ xl xs m (pc + 3) ls st (pm_setI M o j v) := pm_ev_nx hd rfl rfl rfl (by
  simp only [pm_nx, hf, Option.bind_some]
  rw [if_pos ⟨hk, Or.inl hs⟩])
theorem ev_putZ {x o c j : Nat} {v : Int32} (hf : pm_tf τ (pm_n m) x = some (c, j)) (hs : pm_ts τ c j = 1) (hk : (pm_k M o).1 = 2 * c + 2) (hv : v = 0 ∨ v = 1) (hd : decode (pm_b m) pc = .ok (.putfield x, 3)) : pm_ev τ xl xs m pc ls (.int v :: .ref o :: st) M = pm_ev τ xl xs m (pc + 3) ls st (pm_setI M o j v) := pm_ev_nx hd rfl rfl rfl (by
  simp only [pm_nx, hf, Option.bind_some]
  rw [if_pos ⟨hk, Or.inr ⟨hs, hv⟩⟩])
theorem ev_putR {x o c j v : Nat} (hf : pm_tf τ (pm_n m) x = some (c, j)) (hs : pm_ts τ c j = 2) (hi : (pm_y m).name = "<init>") (hn : pm_n m = c) (hk : (pm_k M o).1 = 2 * c + 2) (hd : decode (pm_b m) pc = .ok (.putfield x, 3)) : pm_ev τ xl xs m pc ls (.ref v :: .ref o :: st) M = pm_ev τ xl xs m (pc + 3) ls st (pm_setR M o j (some v)) := pm_ev_nx hd rfl rfl rfl (by
  simp only [pm_nx, hf, Option.bind_some]
  rw [if_pos ⟨hk, hs, hi, hn⟩])
theorem ev_iald {i : Int32} {o : Nat} (hk : (pm_k M o).1 = 1) (hi : ¬ (i < 0 ∨ (pm_k M o).2 ≤ i.toNatClampNeg)) (hd : decode (pm_b m) pc = .ok (.iaload, 1)) : pm_ev τ xl xs m pc ls (.int i :: .ref o :: st) M = pm_ev τ xl xs m (pc + 1) ls (.int (pm_is M o i.toNatClampNeg) :: st) M := pm_ev_nx hd rfl rfl rfl (by
  simp only [pm_nx]
  rw [if_pos ⟨hk, hi⟩])
theorem ev_sld {i : Int32} {b : UInt64} (hi : ¬ (i < 0 ∨ xl ≤ i.toNatClampNeg)) (hd : decode (pm_b m) pc = .ok (.iaload, 1)) : pm_ev τ xl xs m pc ls (.int i :: .double b :: st) M = pm_ev τ xl xs m (pc + 1) ls (.int (xs i.toNatClampNeg) :: st) M := pm_ev_nx hd rfl rfl rfl (by
  simp only [pm_nx]
  rw [if_neg hi])
theorem ev_iast {i v : Int32} {o : Nat} (hk : (pm_k M o).1 = 1) (hi : ¬ (i < 0 ∨ (pm_k M o).2 ≤ i.toNatClampNeg)) (hd : decode (pm_b m) pc = .ok (.iastore, 1)) : pm_ev τ xl xs m pc ls (.int v :: .int i :: .ref o :: st) M = pm_ev τ xl xs m (pc + 1) ls st (pm_setI M o i.toNatClampNeg v) := pm_ev_nx hd rfl rfl rfl (by
  simp only [pm_nx]
  rw [if_pos ⟨hk, hi⟩])
theorem ev_aald {i : Int32} {o c : Nat} (hk : (pm_k M o).1 = 2 * c + 3) (hi : ¬ (i < 0 ∨ (pm_k M o).2 ≤ i.toNatClampNeg)) (hd : decode (pm_b m) pc = .ok (.aaload, 1)) : pm_ev τ xl xs m pc ls (.int i :: .ref o :: st) M = pm_ev τ xl xs m (pc + 1) ls (pm_rv (pm_rs M o i.toNatClampNeg) :: st) M := pm_ev_nx hd rfl rfl rfl (by
  simp only [pm_nx]
  rw [if_pos ⟨by omega, by omega, hi⟩])
theorem ev_aast {i : Int32} {o c v : Nat} (hk : (pm_k M o).1 = 2 * c + 3) (hi : ¬ (i < 0 ∨ (pm_k M o).2 ≤ i.toNatClampNeg)) (hv : (pm_k M v).1 = 2 * c + 2) (hd : decode (pm_b m) pc = .ok (.aastore, 1)) : pm_ev τ xl xs m pc ls (.ref v :: .int i :: .ref o :: st) M = pm_ev τ xl xs m (pc + 1) ls st (pm_setR M o i.toNatClampNeg (some v)) := pm_ev_nx hd rfl rfl rfl (by
  simp only [pm_nx]
  rw [if_pos ⟨by omega, by omega, hi, by omega⟩])
theorem ev_slen {b : UInt64} (hd : decode (pm_b m) pc = .ok (.arraylength, 1)) : pm_ev τ xl xs m pc ls (.double b :: st) M = pm_ev τ xl xs m (pc + 1) ls (.int (Int32.ofNat xl) :: st) M := pm_ev_nx hd rfl rfl rfl rfl
theorem ev_new {x c : Nat} (hc : pm_tn τ (pm_n m) x = some c) (hd : decode (pm_b m) pc = .ok (.new x, 3)) : pm_ev τ xl xs m pc ls st M = pm_ev τ xl xs m (pc + 3) ls (.ref M.1 :: st) (pm_new M (2 * c + 2) (pm_tl τ c)) := pm_ev_nx hd rfl rfl rfl (by simp only [pm_nx, hc, Option.bind_some])
theorem ev_newa {n : Int32} (hn : ¬ n < 0 ∧ n.toNatClampNeg ≤ 100000) (hd : decode (pm_b m) pc = .ok (.newarray .int, 2)) : pm_ev τ xl xs m pc ls (.int n :: st) M = pm_ev τ xl xs m (pc + 2) ls (.ref M.1 :: st) (pm_new M 1 n.toNatClampNeg) := pm_ev_nx hd rfl rfl rfl (by
  simp only [pm_nx]
  rw [if_pos ⟨trivial, hn⟩])
theorem ev_anew {x c : Nat} {n : Int32} (hc : pm_ta τ (pm_n m) x = some c) (hn : ¬ n < 0 ∧ n.toNatClampNeg ≤ 100000) (hd : decode (pm_b m) pc = .ok (.anewarray x, 3)) : pm_ev τ xl xs m pc ls (.int n :: st) M = pm_ev τ xl xs m (pc + 3) ls (.ref M.1 :: st) (pm_new M (2 * c + 3) n.toNatClampNeg) := pm_ev_nx hd rfl rfl rfl (by
  simp only [pm_nx, hc, Option.bind_some]
  rw [if_pos hn])
theorem ev_iret {v : Int32} (hr : pm_r m = some .int) (hd : decode (pm_b m) pc = .ok (.ireturn, 1)) : pm_ev τ xl xs m pc ls [.int v] M = some (some (.int v), M) := pm_ev_rt hd rfl rfl (by simp only [pm_rt]; rw [if_pos (Or.inl hr)])
theorem ev_zret {v : Int32} (hr : pm_r m = some .boolean) (hv : v = 0 ∨ v = 1) (hd : decode (pm_b m) pc = .ok (.ireturn, 1)) : pm_ev τ xl xs m pc ls [.int v] M = some (some (.int v), M) := pm_ev_rt hd rfl rfl (by simp only [pm_rt]; rw [if_pos (Or.inr ⟨hr, hv⟩)])
theorem ev_ret (hr : pm_r m = none) (hd : decode (pm_b m) pc = .ok (.return_, 1)) : pm_ev τ xl xs m pc ls [] M = some (none, M) := pm_ev_rt hd rfl rfl (by simp only [pm_rt]; rw [if_pos hr])
theorem ev_ixor {x y : Int32} (hd : decode (pm_b m) pc = .ok (.ixor, 1)) : pm_ev τ xl xs m pc ls (.int y :: .int x :: st) M = pm_ev τ xl xs m (pc + 1) ls (.int (x ^^^ y) :: st) M := pm_ev_nx hd rfl rfl rfl rfl
theorem ev_i2l {x : Int32} (hd : decode (pm_b m) pc = .ok (.i2l, 1)) : pm_ev τ xl xs m pc ls (.int x :: st) M = pm_ev τ xl xs m (pc + 1) ls (.long x.toInt64 :: st) M := pm_ev_nx hd rfl rfl rfl rfl
theorem ev_ladd {x y : Int64} (hd : decode (pm_b m) pc = .ok (.ladd, 1)) : pm_ev τ xl xs m pc ls (.long y :: .long x :: st) M = pm_ev τ xl xs m (pc + 1) ls (.long (x + y) :: st) M := pm_ev_nx hd rfl rfl rfl rfl
theorem ev_lmul {x y : Int64} (hd : decode (pm_b m) pc = .ok (.lmul, 1)) : pm_ev τ xl xs m pc ls (.long y :: .long x :: st) M = pm_ev τ xl xs m (pc + 1) ls (.long (x * y) :: st) M := pm_ev_nx hd rfl rfl rfl rfl
theorem ev_lcmp {x y : Int64} (hd : decode (pm_b m) pc = .ok (.lcmp, 1)) : pm_ev τ xl xs m pc ls (.long y :: .long x :: st) M = pm_ev τ xl xs m (pc + 1) ls (.int (lg_cmp x y) :: st) M := pm_ev_nx hd rfl rfl rfl rfl
theorem ev_lconst {n : Fin 2} {v : Int64} (hv : Int64.ofNat n.val = v) (hd : decode (pm_b m) pc = .ok (.lconst n, 1)) : pm_ev τ xl xs m pc ls (st) M = pm_ev τ xl xs m (pc + 1) ls (.long v :: st) M := by subst hv; exact pm_ev_nx hd rfl rfl rfl rfl
theorem ev_ldc2_w {x : Nat} {v : Int64} (hk : pm_tq τ (pm_n m) x = some v) (hd : decode (pm_b m) pc = .ok (.ldc2_w x, 3)) : pm_ev τ xl xs m pc ls (st) M = pm_ev τ xl xs m (pc + 3) ls (.long v :: st) M := pm_ev_nx hd rfl rfl rfl (by simp only [pm_nx, hk, Option.bind_some])
theorem ev_lload_n {k : Fin 4} {x : Int64} (hk : pm_ldl (pm_w m) ls k.val = some x) (hd : decode (pm_b m) pc = .ok (.lload_n k, 1)) : pm_ev τ xl xs m pc ls (st) M = pm_ev τ xl xs m (pc + 1) ls (.long x :: st) M := pm_ev_nx hd rfl rfl rfl (by simp only [pm_nx, hk, Option.bind_some])
theorem ev_lload {k : Nat} {x : Int64} (hk : pm_ldl (pm_w m) ls k = some x) (hd : decode (pm_b m) pc = .ok (.lload k, 2)) : pm_ev τ xl xs m pc ls (st) M = pm_ev τ xl xs m (pc + 2) ls (.long x :: st) M := pm_ev_nx hd rfl rfl rfl (by simp only [pm_nx, hk, Option.bind_some])
theorem ev_lstore_n {k : Fin 4} {x : Int64} {ls' : pm_L} (hk : pm_stl (pm_w m) ls k.val (.long x :: st) = some (ls', st)) (hd : decode (pm_b m) pc = .ok (.lstore_n k, 1)) : pm_ev τ xl xs m pc ls (.long x :: st) M = pm_ev τ xl xs m (pc + 1) ls' st M := pm_ev_nx hd rfl rfl rfl (by simp only [pm_nx, hk, Option.bind_some])
theorem ev_lstore {k : Nat} {x : Int64} {ls' : pm_L} (hk : pm_stl (pm_w m) ls k (.long x :: st) = some (ls', st)) (hd : decode (pm_b m) pc = .ok (.lstore k, 2)) : pm_ev τ xl xs m pc ls (.long x :: st) M = pm_ev τ xl xs m (pc + 2) ls' st M := pm_ev_nx hd rfl rfl rfl (by simp only [pm_nx, hk, Option.bind_some])
theorem ev_lret {v : Int64} (hr : pm_r m = some .long) (hd : decode (pm_b m) pc = .ok (.lreturn, 1)) : pm_ev τ xl xs m pc ls [.long v] M = some (some (.long v), M) := pm_ev_rt hd rfl rfl (by simp only [pm_rt]; rw [if_pos hr])
/-- the object's own constructor -/
theorem ev_oinit {x o na : Nat} {m' : pm_M} (hc : pm_tc τ (pm_n m) x = some (3, m', na)) (hr : 1 ≤ pm_f m ∧ 2 * st.length + 12 ≤ pm_o m) (hd : decode (pm_b m) pc = .ok (.invokespecial x, 3)) : pm_ev τ xl xs m pc ls (.ref o :: st) M = pm_ev τ xl xs m (pc + 3) ls st M := pm_ev_nx hd rfl (by
  simp only [pm_cl, hc, Option.bind_some]
  split
  · rw [if_neg (by rintro ⟨h, -⟩; cases h)]
  · rfl) rfl (by
  simp only [pm_nx, hc, Option.bind_some]
  rw [if_pos ⟨trivial, hr⟩])
theorem ev_max {x na : Nat} {m' : pm_M} {a b : Int32} (hc : pm_tc τ (pm_n m) x = some (4, m', na)) (hr : 1 ≤ pm_f m ∧ 2 * st.length + 13 ≤ pm_o m) (hd : decode (pm_b m) pc = .ok (.invokestatic x, 3)) : pm_ev τ xl xs m pc ls (.int b :: .int a :: st) M = pm_ev τ xl xs m (pc + 3) ls (.int (if a < b then b else a) :: st) M := pm_ev_nx hd rfl (by
  simp only [pm_cl, hc, Option.bind_some]
  rw [if_neg (by rintro ⟨h, -⟩; cases h)]) rfl (by
  simp only [pm_nx, hc, Option.bind_some]
  rw [if_pos ⟨trivial, hr⟩])
theorem ev_min {x na : Nat} {m' : pm_M} {a b : Int32} (hc : pm_tc τ (pm_n m) x = some (5, m', na)) (hr : 1 ≤ pm_f m ∧ 2 * st.length + 13 ≤ pm_o m) (hd : decode (pm_b m) pc = .ok (.invokestatic x, 3)) : pm_ev τ xl xs m pc ls (.int b :: .int a :: st) M = pm_ev τ xl xs m (pc + 3) ls (.int (if b < a then b else a) :: st) M := pm_ev_nx hd rfl (by
  simp only [pm_cl, hc, Option.bind_some]
  rw [if_neg (by rintro ⟨h, -⟩; cases h)]) rfl (by
  simp only [pm_nx, hc, Option.bind_some]
  rw [if_neg (by rintro ⟨h, -⟩; cases h), if_pos ⟨trivial, hr⟩])
/-- calls: what the callee answers is bound -/
theorem ev_callV {x o na : Nat} {m' : pm_M} {As : List Value} (hc : pm_tc τ (pm_n m) x = some (0, m', na)) (hk : (pm_k M o).1 = 2 * pm_n m' + 2) (hn : As.length = na) (hr : na + 1 ≤ pm_l m' ∧ 2 * st.length ≤ 8 ∧ pm_f m' + 1 ≤ pm_f m ∧ 8 + (pm_l m' + 11) + pm_o m' ≤ pm_o m ∧ As.all pm_c1 = true) (hd : decode (pm_b m) pc = .ok (.invokevirtual x, 3)) : pm_ev τ xl xs m pc ls (As ++ .ref o :: st) M = (pm_ev τ xl xs m' 0 (pm_en m' (.ref o :: As.reverse)) [] M).bind fun q => pm_ev τ xl xs m (pc + 3) ls (q.1.toList ++ st) q.2 := by
  refine pm_ev_cl hd rfl ?_
  subst hn
  simp only [pm_cl, hc, Option.bind_some, List.drop_left, List.take_left]
  rw [if_pos ⟨trivial, hk, by simp, hr⟩]
theorem ev_callI {x o na : Nat} {m' : pm_M} {As : List Value} (hc : pm_tc τ (pm_n m) x = some (2, m', na)) (hn : As.length = na) (hr : na + 1 ≤ pm_l m' ∧ 2 * st.length ≤ 8 ∧ pm_f m' + 1 ≤ pm_f m ∧ 8 + (pm_l m' + 11) + pm_o m' ≤ pm_o m ∧ As.all pm_c1 = true) (hd : decode (pm_b m) pc = .ok (.invokespecial x, 3)) : pm_ev τ xl xs m pc ls (As ++ .ref o :: st) M = (pm_ev τ xl xs m' 0 (pm_en m' (.ref o :: As.reverse)) [] M).bind fun q => pm_ev τ xl xs m (pc + 3) ls (q.1.toList ++ st) q.2 := by
  refine pm_ev_cl hd rfl ?_
  subst hn
  simp only [pm_cl, hc, Option.bind_some, List.drop_left, List.take_left]
  rw [if_pos ⟨trivial, by simp, hr⟩]
theorem ev_callS {x na : Nat} {m' : pm_M} {As : List Value} (hc : pm_tc τ (pm_n m) x = some (1, m', na)) (hn : As.length = na) (hr : na ≤ pm_l m' ∧ 2 * st.length ≤ 8 ∧ pm_f m' + 1 ≤ pm_f m ∧ 8 + (pm_l m' + 11) + pm_o m' ≤ pm_o m ∧ As.all pm_c1 = true) (hd : decode (pm_b m) pc = .ok (.invokestatic x, 3)) : pm_ev τ xl xs m pc ls (As ++ st) M = (pm_ev τ xl xs m' 0 (pm_en m' As.reverse) [] M).bind fun q => pm_ev τ xl xs m (pc + 3) ls (q.1.toList ++ st) q.2 := by
  refine pm_ev_cl hd rfl ?_
  subst hn
  simp only [pm_cl, hc, Option.bind_some, List.drop_left, List.take_left]
  rw [if_pos ⟨trivial, by simp, hr⟩]
end PMEV
end
section
/-! THE REAL MACHINE ANSWERS WHAT THE PURE ONE DOES: pictures of a heap, instruction by instruction -/
def pm_sh (base b : Nat) (v : Value) : Value := match v with
  | .int x => .int x
  | .ref o => .ref (base + o)
  | .double _ => .ref b
  | .long x => .long x
  | _ => .null
theorem pm_sh_cat (base b : Nat) (v : Value) (h : pm_c1 v = true) : (pm_sh base b v).category = 1 := by cases v <;> first | rfl | cases h
theorem pm_sh_cat2 (base b : Nat) (v : Value) : (pm_sh base b v).category ≤ 2 := by cases v <;> exact Nat.le_of_ble_eq_true rfl
theorem pm_sh_rv (base b : Nat) (r : Option Nat) : pm_sh base b (pm_rv r) = va_rf (r.map (fun o => base + o)) := by cases r <;> rfl
/-- the listed values of a frame's variables: longs where the method holds longs alone -/
def pm_as (w : List Nat) (base b : Nat) (ls : pm_L) : List (Nat × Value) := (List.range ls.length).filterMap fun i => match ls[i]? with
  | some (some v) => if pm_c1 v = true ∨ w.contains i = true then some (i, pm_sh base b v) else none
  | _ => none
theorem pm_as_mem {w : List Nat} {base b : Nat} {ls : pm_L} {q : Nat × Value} : q ∈ pm_as w base b ls ↔ ∃ v, ls[q.1]? = some (some v) ∧ (pm_c1 v = true ∨ w.contains q.1 = true) ∧ q.2 = pm_sh base b v := by
  unfold pm_as
  rw [List.mem_filterMap]
  constructor
  · rintro ⟨i, hi, h⟩
    split at h
    · rename_i v hv
      split at h
      · rename_i hc
        cases h
        exact ⟨v, hv, hc, rfl⟩
      · cases h
    · cases h
  · rintro ⟨v, h1, hc, h2⟩
    have hlt : q.1 < ls.length := (List.getElem?_eq_some_iff.mp h1).1
    refine ⟨q.1, List.mem_range.mpr hlt, ?_⟩
    rw [h1]
    obtain ⟨a, w⟩ := q
    dsimp only at h2 hc ⊢
    rw [if_pos hc, h2]
theorem pm_as_at {w : List Nat} {base b nL : Nat} {ls : pm_L} {la : Array Slot} (h : lv_has la nL (pm_as w base b ls)) {k : Nat} {v : Value} (hc : pm_c1 v = true ∨ w.contains k = true) (hk : ls[k]? = some (some v)) : la[k]? = some (.val (pm_sh base b v)) := h.2.2 (k, pm_sh base b v) (pm_as_mem.mpr ⟨v, hk, hc, rfl⟩)
theorem pm_nl_no {w : List Nat} {k a : Nat} (h : pm_nl w k = true) (ha : w.contains a = true) : a + 1 ≠ k := by
  have := List.all_eq_true.mp h a (List.contains_iff_mem.mp ha)
  simpa using this
theorem pm_as_set {w : List Nat} {base b nL : Nat} {ls : pm_L} {la : Array Slot} {k : Nat} {v : Value} (hnl : pm_nl w k = true) (h : lv_has la nL ((k, pm_sh base b v) :: (pm_as w base b ls).filter (fun q => !(q.1 == k) && !(q.1 + 1 == k && q.2.category == 2)))) : lv_has la nL (pm_as w base b (ls.set k (some v))) := by
  refine ⟨h.1, h.2.1, fun q hq => ?_⟩
  obtain ⟨u, h1, hc, h2⟩ := pm_as_mem.mp hq
  refine h.2.2 q ?_
  obtain ⟨a, z⟩ := q
  dsimp only at h1 h2 hc
  subst h2
  by_cases ha : a = k
  · subst ha
    rw [List.getElem?_set] at h1
    rw [if_pos rfl] at h1
    split at h1
    · cases h1
      exact List.mem_cons_self
    · cases h1
  · rw [List.getElem?_set_ne (fun e => ha e.symm)] at h1
    refine List.mem_cons_of_mem _ (List.mem_filter.mpr ⟨pm_as_mem.mpr ⟨u, h1, hc, rfl⟩, ?_⟩)
    rcases hc with hc | hc
    · have hc := pm_sh_cat base b u hc
      simp [ha, hc]
    · have hc := pm_nl_no hnl hc
      simp [ha, hc]
theorem pm_as_setL {w : List Nat} {base b nL : Nat} {ls : pm_L} {la : Array Slot} {k : Nat} {x : Int64} (hnl : pm_nl w k = true) (h : lv_has la nL ((k, .long x) :: (pm_as w base b ls).filter (fun q => !(q.1 == k) && (!(q.1 == k + 1) && !(q.1 + 1 == k && q.2.category == 2))))) : lv_has la nL (pm_as w base b ((ls.set k (some (.long x))).set (k + 1) none)) := by
  refine ⟨h.1, h.2.1, fun q hq => ?_⟩
  obtain ⟨u, h1, hc, h2⟩ := pm_as_mem.mp hq
  refine h.2.2 q ?_
  obtain ⟨a, z⟩ := q
  dsimp only at h1 h2 hc
  subst h2
  by_cases hb : a = k + 1
  · subst hb
    rw [List.getElem?_set] at h1
    rw [if_pos rfl] at h1
    split at h1 <;> cases h1
  · rw [List.getElem?_set_ne (fun e => hb e.symm)] at h1
    by_cases ha : a = k
    · subst ha
      rw [List.getElem?_set] at h1
      rw [if_pos rfl] at h1
      split at h1
      · cases h1
        exact List.mem_cons_self
      · cases h1
    · rw [List.getElem?_set_ne (fun e => ha e.symm)] at h1
      refine List.mem_cons_of_mem _ (List.mem_filter.mpr ⟨pm_as_mem.mpr ⟨u, h1, hc, rfl⟩, ?_⟩)
      rcases hc with hc | hc
      · have hc := pm_sh_cat base b u hc
        simp [ha, hb, hc]
      · have hc := pm_nl_no hnl hc
        simp [ha, hb, hc]
theorem pm_as_entry (w : List Nat) (base b : Nat) (m : pm_M) (vs : List Value) (hall : vs.all pm_c1 = true) : ∀ q ∈ pm_as w base b (pm_en m vs), q ∈ lv_args 0 (vs.map (pm_sh base b)) := by
  intro q hq
  obtain ⟨v, h1, hcc, h2⟩ := pm_as_mem.mp hq
  obtain ⟨a, z⟩ := q
  dsimp only at h1 h2
  subst h2
  have hv : vs[a]? = some v := by
    unfold pm_en at h1
    rw [List.getElem?_append] at h1
    split at h1
    · rw [List.getElem?_map] at h1
      cases hx : vs[a]? with
      | none => rw [hx] at h1; cases h1
      | some w => rw [hx] at h1; cases h1; rfl
    · rw [List.getElem?_replicate] at h1
      split at h1 <;> cases h1
  have key : ∀ (us : List Value) (i j : Nat), us.all pm_c1 = true → us[j]? = some v → (i + j, pm_sh base b v) ∈ lv_args i (us.map (pm_sh base b)) := by
    intro us
    induction us with
    | nil => intro i j _ h; cases h
    | cons u us ih =>
      intro i j hal h
      rw [List.all_cons, Bool.and_eq_true] at hal
      rw [List.map_cons, lv_args]
      rw [if_neg (by rw [pm_sh_cat base b u hal.1]; decide)]
      cases j with
      | zero => cases h; exact List.mem_cons_self
      | succ j =>
        have := ih (i + 1) j hal.2 h
        rw [show i + (j + 1) = i + 1 + j by omega]
        exact List.mem_cons_of_mem _ this
  have := key vs 0 a hall hv
  rwa [Nat.zero_add] at this
theorem pm_en_len {m : pm_M} {vs : List Value} (h : vs.length ≤ pm_l m) : (pm_en m vs).length = pm_l m := by
  simp [pm_en]
  omega
theorem pm_lg (base b : Nat) (vs : List Value) (hall : vs.all pm_c1 = true) : (lg_sl (vs.map (pm_sh base b))).length = vs.length := by
  induction vs with
  | nil => rfl
  | cons v vs ih =>
    rw [List.all_cons, Bool.and_eq_true] at hall
    show (List.flatMap _ _).length = _
    rw [List.map_cons, List.flatMap_cons, List.length_append]
    rw [if_neg (by rw [pm_sh_cat base b v hall.1]; decide)]
    have : (List.flatMap (fun v => if v.category = 2 then [Slot.val v, .second] else [.val v]) (vs.map (pm_sh base b))).length = vs.length := ih hall.2
    rw [this]
    simp
    omega
theorem pm_cats (base b : Nat) (st : List Value) : ((st.map (pm_sh base b)).map fun v => v.category).sum ≤ 2 * st.length := by
  induction st with
  | nil => exact Nat.le_refl _
  | cons v st ih =>
    rw [List.map_cons, List.map_cons, List.sum_cons, List.length_cons]
    have := pm_sh_cat2 base b v
    omega
/-- one cell of the picture -/
def pm_at (τ : pm_T) (cl : List vw_C) (acs : List Nat) (D : va_G) (cA : Nat → ClassId) (base : Nat) (M : pm_H) (H : Heap) (k : Nat) : Prop :=
  (∀ c n : Nat, pm_k M k = (2 * c + 2, n) → (∃ q : vw_C, cl[c]? = some q ∧ q.2.2 = n) ∧ t_OB (base + k) (D.1 c) n (D.2 c) H (fun j => if pm_ts τ c j = 2 then va_rf ((pm_rs M k j).map (fun o => base + o)) else .int (pm_is M k j))) ∧
  (∀ n : Nat, pm_k M k = (1, n) → H[base + k]? = some (arrV (cA 1) n (fun j => .int (pm_is M k j)))) ∧
  (∀ c n : Nat, pm_k M k = (2 * c + 3, n) → c ∈ acs ∧ H[base + k]? = some (arrV (cA (2 * c + 3)) n (fun j => va_rf ((pm_rs M k j).map (fun o => base + o)))))
theorem pm_at_keep {τ : pm_T} {cl : List vw_C} {acs : List Nat} {D : va_G} {cA : Nat → ClassId} {base : Nat} {M M' : pm_H} {H H' : Heap} {k : Nat} (h : pm_at τ cl acs D cA base M H k) (hH : H'[base + k]? = H[base + k]?) (hk : pm_k M' k = pm_k M k) (hr : ∀ j, pm_rs M' k j = pm_rs M k j) (hi : ∀ j, pm_is M' k j = pm_is M k j) : pm_at τ cl acs D cA base M' H' k := by
  obtain ⟨h1, h2, h3⟩ := h
  refine ⟨fun c n e => ?_, fun n e => ?_, fun c n e => ?_⟩
  · obtain ⟨a, b⟩ := h1 c n (hk.symm.trans e)
    refine ⟨a, (b.kept hH).to fun j _ => ?_⟩
    rw [hr, hi]
  · rw [hH, h2 n (hk.symm.trans e)]
    exact congrArg some (congrArg (arrV (cA 1) n) (funext fun j => by rw [hi]))
  · obtain ⟨a, b⟩ := h3 c n (hk.symm.trans e)
    refine ⟨a, ?_⟩
    rw [hH, b]
    exact congrArg some (congrArg (arrV _ n) (funext fun j => by rw [hr]))
/-- what the tables say, of the machine that stands there -/
def pm_K (cl : List vw_C) (acs : List Nat) (D : va_G) (cA : Nat → ClassId) (s : State) : Prop :=
  va_K D cl [] s ∧ (ArrOfT s (cA 1) .int ∧ va_RA s (cA 1) .int) ∧ ∀ c, c ∈ acs → ∀ q : vw_C, cl[c]? = some q → (ArrOfT s (cA (2 * c + 3)) (.object q.1) ∧ va_RA s (cA (2 * c + 3)) (.object q.1)) ∧ va_AO q.1 s
theorem pm_K.moved {cl : List vw_C} {acs : List Nat} {D : va_G} {cA : Nat → ClassId} {u U : State} (hvm : u.vm.Alike U.vm) (h : pm_K cl acs D cA u) : pm_K cl acs D cA U :=
  ⟨va_K.moved hvm h.1, ⟨arrOfT_moved hvm h.2.1.1, h.2.1.2.moved hvm⟩, fun c hc q hq => ⟨⟨arrOfT_moved hvm (h.2.2 c hc q hq).1.1, (h.2.2 c hc q hq).1.2.moved hvm⟩, va_AO.moved hvm (h.2.2 c hc q hq).2⟩⟩
/-- a heap that the memory pictures -/
def pm_Pic (τ : pm_T) (cl : List vw_C) (acs : List Nat) (D : va_G) (cA : Nat → ClassId) (base : Nat) (M : pm_H) (H : Heap) : Prop :=
  H.size = base + M.1 ∧ (∀ k, M.1 ≤ k → (pm_k M k).1 = 0) ∧ ∀ k, pm_at τ cl acs D cA base M H k
theorem pm_Pic.lt {τ : pm_T} {cl : List vw_C} {acs : List Nat} {D : va_G} {cA : Nat → ClassId} {base : Nat} {M : pm_H} {H : Heap} (h : pm_Pic τ cl acs D cA base M H) {k : Nat} (hk : (pm_k M k).1 ≠ 0) : k < M.1 := by
  rcases Nat.lt_or_ge k M.1 with h1 | h1
  · exact h1
  · exact absurd (h.2.1 k h1) hk
/-- one cell has changed -/
theorem pm_Pic.put {τ : pm_T} {cl : List vw_C} {acs : List Nat} {D : va_G} {cA : Nat → ClassId} {base : Nat} {M M' : pm_H} {H H' : Heap} {k : Nat} (h : pm_Pic τ cl acs D cA base M H) (hz : H'.size = H.size) (hq : ∀ q, q ≠ base + k → H'[q]? = H[q]?) (h1 : M'.1 = M.1) (hk : ∀ a, pm_k M' a = pm_k M a) (hr : ∀ a, a ≠ k → ∀ j, pm_rs M' a j = pm_rs M a j) (hi : ∀ a, a ≠ k → ∀ j, pm_is M' a j = pm_is M a j) (hat : pm_at τ cl acs D cA base M' H' k) : pm_Pic τ cl acs D cA base M' H' := by
  refine ⟨by rw [hz, h1]; exact h.1, fun a ha => by rw [hk]; exact h.2.1 a (by rw [← h1]; exact ha), fun a => ?_⟩
  by_cases e : a = k
  · subst e; exact hat
  · exact pm_at_keep (h.2.2 a) (hq _ (by omega)) (hk a) (hr a e) (hi a e)
theorem pm_new_k (M : pm_H) (kind len k : Nat) : pm_k (pm_new M kind len) k = if k = M.1 then (kind, len) else pm_k M k := rfl
theorem pm_new_r (M : pm_H) (kind len k j : Nat) : pm_rs (pm_new M kind len) k j = if k = M.1 then none else pm_rs M k j := rfl
theorem pm_new_i (M : pm_H) (kind len k j : Nat) : pm_is (pm_new M kind len) k j = if k = M.1 then 0 else pm_is M k j := rfl
theorem pm_Pic.new {τ : pm_T} {cl : List vw_C} {acs : List Nat} {D : va_G} {cA : Nat → ClassId} {base : Nat} {M : pm_H} {H H' : Heap} {kind len : Nat} (h : pm_Pic τ cl acs D cA base M H) (hz : H'.size = H.size + 1) (hq : ∀ q, q < H.size → H'[q]? = H[q]?) (hat : pm_at τ cl acs D cA base (pm_new M kind len) H' M.1) : pm_Pic τ cl acs D cA base (pm_new M kind len) H' := by
  refine ⟨by rw [hz, h.1]; rfl, fun a ha => ?_, fun a => ?_⟩
  · have ha : M.1 + 1 ≤ a := ha
    rw [pm_new_k, if_neg (by omega)]
    exact h.2.1 a (by omega)
  · rcases Nat.lt_trichotomy a M.1 with e | e | e
    · exact pm_at_keep (h.2.2 a) (hq _ (by rw [h.1]; omega)) (by rw [pm_new_k, if_neg (by omega)]) (fun j => by rw [pm_new_r, if_neg (by omega)]) (fun j => by rw [pm_new_i, if_neg (by omega)])
    · subst e; exact hat
    · have hk : (pm_k (pm_new M kind len) a).1 = 0 := by rw [pm_new_k, if_neg (by omega)]; exact h.2.1 a (by omega)
      refine ⟨fun c n e => ?_, fun n e => ?_, fun c n e => ?_⟩ <;> (rw [e] at hk; dsimp only at hk; omega)
end
section
/-! what the tables must hold, and the rows of the instructions that touch the memory -/
def pm_okM (Rn : Nat → String) (Ts : List Jvm.Cond) (m : pm_M) : Prop := Jvm.Cond.code (pm_y m) (pm_b m) (pm_l m) (pm_r m) ∈ Ts ∧ plainName (pm_y m).cls = true ∧ Rn (pm_n m) = (pm_y m).cls
def pm_okC (cl : List vw_C) (Rn : Nat → String) (Ts : List Jvm.Cond) (n x : Nat) (q : Nat × pm_M × Nat) : Prop :=
  (q.1 = 3 → Jvm.Cond.methodLink (Rn n) x Jvm.Lib.objectInit ∈ Ts ∧ Jvm.Cond.instanceMethod Jvm.Lib.objectInit ∈ Ts ∧ Jvm.Cond.code Jvm.Lib.objectInit ⟨#[0xb1]⟩ 1 none ∈ Ts) ∧
  (q.1 < 3 → pm_okM Rn Ts q.2.1 ∧ Jvm.Cond.methodLink (Rn n) x (pm_y q.2.1) ∈ Ts ∧ Jvm.Cond.initialized (pm_y q.2.1).cls ∈ Ts ∧ ((pm_y q.2.1).cls ≠ "java/lang/invoke/MethodHandle" ∧ (pm_y q.2.1).cls ≠ "java/lang/invoke/VarHandle" ∧ (parseMethodDescriptor (pm_y q.2.1).desc).map (fun d => d.parameters.length) = some q.2.2)) ∧
  (q.1 = 0 → Jvm.Cond.instanceMethod (pm_y q.2.1) ∈ Ts ∧ Jvm.Cond.selects (pm_y q.2.1).cls (pm_y q.2.1) (pm_y q.2.1) ∈ Ts) ∧
  (q.1 = 1 → Jvm.Cond.static (pm_y q.2.1) ∈ Ts) ∧
  (q.1 = 2 → (pm_y q.2.1).name = "<init>" ∧ Jvm.Cond.instanceMethod (pm_y q.2.1) ∈ Ts ∧ pm_r q.2.1 = none) ∧
  (q.1 = 4 → Jvm.Cond.methodLink (Rn n) x Jvm.Lib.Math.max.name ∈ Ts ∧ Jvm.Cond.static Jvm.Lib.Math.max.name ∈ Ts ∧ Jvm.Cond.initialized "java/lang/Math" ∈ Ts ∧ Jvm.Cond.code Jvm.Lib.Math.max.name Jvm.Lib.Math.max.code 2 (some .int) ∈ Ts) ∧
  (q.1 = 5 → Jvm.Cond.methodLink (Rn n) x Jvm.Lib.Math.min.name ∈ Ts ∧ Jvm.Cond.static Jvm.Lib.Math.min.name ∈ Ts ∧ Jvm.Cond.initialized "java/lang/Math" ∈ Ts ∧ Jvm.Cond.code Jvm.Lib.Math.min.name Jvm.Lib.Math.min.code 2 (some .int) ∈ Ts)
def pm_okK (τ : pm_T) (Rn : Nat → String) (Ts : List Jvm.Cond) (c : Nat) (q : vw_C) : Prop :=
  Rn c = q.1 ∧ (∀ w ∈ u_ws q.1 q.2.1 q.2.2, w ∈ Ts) ∧ (∀ a, a < q.2.2 → ∀ b, b < q.2.2 → a ≠ b → (q.2.1 a).2.1 ≠ (q.2.1 b).2.1) ∧
  ∃ ty : Nat → FieldType, (∀ j, j < q.2.2 → parseFieldDescriptor (q.2.1 j).2.2.1 = some (ty j)) ∧ ∀ j, j < q.2.2 → (pm_ts τ c j = 0 ∧ ty j = .int ∧ (q.2.1 j).2.2.2 = false) ∨ (pm_ts τ c j = 1 ∧ ty j = .boolean ∧ (q.2.1 j).2.2.2 = false) ∨ (pm_ts τ c j = 2 ∧ ((∃ n, ty j = .object n) ∨ ∃ t, ty j = .array t) ∧ (q.2.1 j).2.2.2 = true ∧ (q.2.1 j).1 = q.1)
def pm_ok (τ : pm_T) (cl : List vw_C) (acs : List Nat) (Rn : Nat → String) (Ts : List Jvm.Cond) : Prop :=
  (∀ w ∈ Ts, goodWord w = true) ∧ (∀ c q, cl[c]? = some q → pm_okK τ Rn Ts c q) ∧
  (∀ n x c j, pm_tf τ n x = some (c, j) → ∃ q : vw_C, cl[c]? = some q ∧ j < q.2.2 ∧ Jvm.Cond.fieldLink (Rn n) x (q.2.1 j).1 (q.2.1 j).2.1 (q.2.1 j).2.2.1 ∈ Ts) ∧
  ((∀ n x v, pm_tk τ n x = some v → Jvm.Cond.constant (Rn n) x v ∈ Ts) ∧ ∀ n x v, pm_tq τ n x = some v → Jvm.Cond.constantLong (Rn n) x v ∈ Ts) ∧
  (∀ n x c, pm_tn τ n x = some c → ∃ q : vw_C, cl[c]? = some q ∧ pm_tl τ c = q.2.2 ∧ Jvm.Cond.classLink (Rn n) x q.1 ∈ Ts ∧ Jvm.Cond.instantiable q.1 q.2.2 ∈ Ts ∧ Jvm.Cond.initialized q.1 ∈ Ts) ∧
  (∀ n x c, pm_ta τ n x = some c → c ∈ acs ∧ ∃ q : vw_C, cl[c]? = some q ∧ Jvm.Cond.classLink (Rn n) x q.1 ∈ Ts) ∧
  Jvm.Cond.arrayClass .int ∈ Ts ∧ (∀ c, c ∈ acs → ∃ q : vw_C, cl[c]? = some q) ∧ (∀ n x q, pm_tc τ n x = some q → pm_okC cl Rn Ts n x q)
section PMR
variable {p : Program} {l : Launch} {e : Env} {R : Room} {s : State} {mi : MethodId} {args : Array Value} {below : List Frame} {meth : Method} {c0 : Code} {H : Heap} {locs : List Loc} {cells slots : Nat} {Q : State → Prop}
variable {cc : ByteArray} {pc : Nat} {la : Array Slot} {rest : List Value}
variable {τ : pm_T} {cl : List vw_C} {acs : List Nat} {Rn : Nat → String} {Ts : List Jvm.Cond} {D : va_G} {cA : Nat → ClassId} {base b xl : Nat} {xs : Nat → Int32} {M : pm_H} {n x : Nat}
/-- the walk's state: the picture, the script, what has been written -/
def pm_Rl (τ : pm_T) (cl : List vw_C) (acs : List Nat) (D : va_G) (cA : Nat → ClassId) (base b xl : Nat) (xs : Nat → Int32) (s : State) (M : pm_H) (H : Heap) (locs : List Loc) : Prop :=
  pm_Pic τ cl acs D cA base M H ∧ va_X b xl xs s H ∧ va_S (fun q => base ≤ q) s.heap H locs
theorem pm_X_keep {H' : Heap} {U : State} (h : va_X b xl xs U H) (hb : H'[b]? = H[b]?) : va_X b xl xs U H' := by
  obtain ⟨scr, h1, h2⟩ := h
  exact ⟨scr, hb.trans h1, h2⟩
theorem pm_Rl.put {M' : pm_H} {H' : Heap} {k j : Nat} (h : pm_Rl τ cl acs D cA base b xl xs s M H locs) (hbb : b < base) (hz : H'.size = H.size) (hq : ∀ q, q ≠ base + k → H'[q]? = H[q]?) (h1 : M'.1 = M.1) (hk : ∀ a, pm_k M' a = pm_k M a) (hr : ∀ a, a ≠ k → ∀ j, pm_rs M' a j = pm_rs M a j) (hi : ∀ a, a ≠ k → ∀ j, pm_is M' a j = pm_is M a j) (hat : pm_at τ cl acs D cA base M' H' k) : pm_Rl τ cl acs D cA base b xl xs s M' H' (locs ++ [⟨base + k, j⟩]) :=
  ⟨h.1.put hz hq h1 hk hr hi hat, pm_X_keep h.2.1 (hq b (by omega)), h.2.2.put hz hq (Nat.le_add_right _ _)⟩
theorem pm_Rl.new {H' : Heap} {kind len : Nat} (h : pm_Rl τ cl acs D cA base b xl xs s M H locs) (hbb : b < base) (hz : H'.size = H.size + 1) (hq : ∀ q, q < H.size → H'[q]? = H[q]?) (hat : pm_at τ cl acs D cA base (pm_new M kind len) H' M.1) : pm_Rl τ cl acs D cA base b xl xs s (pm_new M kind len) H' locs :=
  ⟨h.1.new hz hq hat, pm_X_keep h.2.1 (hq b (by rw [h.1.1]; omega)), Nat.le_trans h.2.2.1 (by omega), fun q h1 h2 => (hq q (Nat.lt_of_lt_of_le h1 h.2.2.1)).trans (h.2.2.2.1 q h1 h2), h.2.2.2.2⟩
/-- getfield -/
theorem pm_getW {o c j : Nat} (hx : p.tables.exec = Jvm.exec) (hb : c0.code = cc) (hok : pm_ok τ cl acs Rn Ts) (hts : ∀ w ∈ Ts, w.before args s = true) (hown : s.vm.findClass (Rn n) = some mi.cls) (hK : pm_K cl acs D cA s) (hR : pm_Pic τ cl acs D cA base M H) (hf : pm_tf τ n x = some (c, j)) (hk : (pm_k M o).1 = 2 * c + 2) (hdg : decode cc pc = .ok (.getfield x, 3))
    (kk : W p l e R s mi args below meth c0 H locs cells slots Q (F0 mi (pc + 3) la (pm_sh base b (if pm_ts τ c j = 2 then pm_rv (pm_rs M o j) else .int (pm_is M o j)) :: rest))) : W p l e R s mi args below meth c0 H locs cells slots Q (F0 mi pc la (.ref (base + o) :: rest)) := by
  obtain ⟨q, hq, hj, hlk⟩ := hok.2.2.1 n x c j hf
  obtain ⟨hRn, hin, hnm, ty, hty, -⟩ := hok.2.1 c q hq
  obtain ⟨⟨q', hq', hlen⟩, cell, q1, q2, q3, q4⟩ := (hR.2.2 o).1 c (pm_k M o).2 (by rw [← hk])
  obtain rfl : q' = q := Option.some.inj (hq'.symm.trans hq)
  obtain ⟨hS, hfc, kC, hkC, hkind⟩ := hK.1.1 c _ hq
  obtain ⟨cf, kf, fi, f, hi, hsl⟩ := hS j hj
  have h4 := q4 j (by rw [← hlen]; exact hj)
  refine W.getf hx hb hown (hts _ hlk) hi (u_facts hfc hkC (u_lays hts hin hj) hi).1 q1 (by rw [q3]; exact fun h => by cases h) (v := pm_sh base b (if pm_ts τ c j = 2 then pm_rv (pm_rs M o j) else .int (pm_is M o j))) ?_ rfl rfl hdg kk
  rw [hsl, h4]
  dsimp only
  split
  · rw [pm_sh_rv]
  · rfl
/-- putfield of a number -/
theorem pm_putIW {o c j : Nat} {v : Int32} (hx : p.tables.exec = Jvm.exec) (hb : c0.code = cc) (hok : pm_ok τ cl acs Rn Ts) (hts : ∀ w ∈ Ts, w.before args s = true) (hown : s.vm.findClass (Rn n) = some mi.cls) (hK : pm_K cl acs D cA s) (hbb : b < base) (hR : pm_Rl τ cl acs D cA base b xl xs s M H locs) (hf : pm_tf τ n x = some (c, j)) (hk : (pm_k M o).1 = 2 * c + 2) (hv : pm_ts τ c j = 0 ∨ (pm_ts τ c j = 1 ∧ (v = 0 ∨ v = 1))) (hdg : decode cc pc = .ok (.putfield x, 3))
    (kk : ∀ (H1 : Heap) (locs1 : List Loc), pm_Rl τ cl acs D cA base b xl xs s (pm_setI M o j v) H1 locs1 → W p l e R s mi args below meth c0 H1 locs1 cells slots Q (F0 mi (pc + 3) la rest)) : W p l e R s mi args below meth c0 H locs cells slots Q (F0 mi pc la (.int v :: .ref (base + o) :: rest)) := by
  obtain ⟨q, hq, hj, hlk⟩ := hok.2.2.1 n x c j hf
  obtain ⟨hRn, hin, hnm, ty, hty, hso⟩ := hok.2.1 c q hq
  have hke : pm_k M o = (2 * c + 2, (pm_k M o).2) := by rw [← hk]
  obtain ⟨⟨q', hq', hlen⟩, cell, q1, q2, q3, q4⟩ := (hR.1.2.2 o).1 c (pm_k M o).2 hke
  obtain rfl : q' = q := Option.some.inj (hq'.symm.trans hq)
  obtain ⟨C, T, N⟩ := q'
  have hap := va_apart (own := Rn n) hts hin ty hty hnm hK.1 hq
  obtain ⟨hS, hfc, kC, hkC, hkind⟩ := hK.1.1 c _ hq
  obtain ⟨cf, kf, fi, f, hi, hsl⟩ := hS j hj
  dsimp only at hj hlen hin hnm hty hso hi hlk
  have hfin : (T j).2.2.2 = false := by
    rcases hso j hj with ⟨-, -, h⟩ | ⟨-, -, h⟩ | ⟨h2, -⟩
    · exact h
    · exact h
    · rcases hv with h | ⟨h, -⟩ <;> rw [h2] at h <;> cases h
  have hn : narrow (ty j) (.int v) = .int v ∧ fits (ty j) (.int v) = true := by
    rcases hso j hj with ⟨-, h, -⟩ | ⟨h1, h, -⟩ | ⟨h2, -⟩
    · rw [h]; exact ⟨rfl, rfl⟩
    · rw [h]
      rcases hv with h' | ⟨-, h'⟩
      · rw [h1] at h'; cases h'
      · rcases h' with rfl | rfl <;> exact ⟨by decide, by decide⟩
    · rcases hv with h | ⟨h, -⟩ <;> rw [h2] at h <;> cases h
  have hlay := hts _ (hin _ (u_in_lay hj))
  unfold u_lay at hlay
  rw [if_neg (by rw [hfin]; decide)] at hlay
  have hst := (u_facts hfc hkC (u_lays hts hin hj) hi).1
  have h6 := u_store hfc hkC hkind hlay hi (hty j hj) hn.1 hn.2
  have hjl : j < (pm_k M o).2 := by rw [← hlen]; exact hj
  refine W.putK hx hb (f := f) ⟨hown, hts _ hlk, ⟨_, _, _, hi⟩, hst⟩ (by rw [q2]; exact h6) q1 q3 (by rw [hsl]; exact k2_hasslot (q4 j hjl)) rfl rfl hdg fun H' e1 e2 e3 => ?_
  rw [hsl] at e1 ⊢
  refine kk H' _ (hR.put hbb e2 e3 rfl (fun _ => rfl) (fun _ _ _ => rfl) (fun a ha i => ?_) ⟨fun c' n' he => ?_, fun n' he => ?_, fun c' n' he => ?_⟩)
  · show pm_u2 _ _ _ _ _ _ = _
    unfold pm_u2
    rw [if_neg (fun h => ha h.1)]; rfl
  · have he : pm_k M o = (2 * c' + 2, n') := he
    obtain rfl : c' = c := by rw [he] at hk; dsimp only at hk; omega
    obtain rfl : n' = (pm_k M o).2 := by rw [he]
    refine ⟨⟨_, hq, hlen⟩, _, e1, q2, q3, fun i hi' => ?_⟩
    rw [t_set q4 (by rw [← hlen]; exact hap) hjl (.int v) i hi']
    unfold updV
    dsimp only
    by_cases hij : i = j
    · subst hij
      rw [if_pos rfl]
      have h0 : ¬ pm_ts τ c' i = 2 := by rcases hv with h | ⟨h, -⟩ <;> rw [h] <;> decide
      rw [if_neg h0]
      show _ = some (Value.int (pm_u2 _ _ _ _ _ _))
      unfold pm_u2
      rw [if_pos ⟨rfl, rfl⟩]
    · rw [if_neg hij]
      have h0 : pm_is (pm_setI M o j v) o i = pm_is M o i := by
        show pm_u2 _ _ _ _ _ _ = _
        unfold pm_u2
        rw [if_neg (fun h => hij h.2)]; rfl
      rw [h0]
      rfl
  · have he : pm_k M o = (1, n') := he
    rw [he] at hk; dsimp only at hk; omega
  · have he : pm_k M o = (2 * c' + 3, n') := he
    rw [he] at hk; dsimp only at hk; omega
/-- putfield of a final reference, in a constructor -/
theorem pm_putRW {o c j v : Nat} (hx : p.tables.exec = Jvm.exec) (hb : c0.code = cc) (hok : pm_ok τ cl acs Rn Ts) (hts : ∀ w ∈ Ts, w.before args s = true) (hown : s.vm.findClass (Rn n) = some mi.cls) (hname : meth.name = "<init>") (hnc : n = c) (hK : pm_K cl acs D cA s) (hbb : b < base) (hR : pm_Rl τ cl acs D cA base b xl xs s M H locs) (hf : pm_tf τ n x = some (c, j)) (hk : (pm_k M o).1 = 2 * c + 2) (hv : pm_ts τ c j = 2) (hdg : decode cc pc = .ok (.putfield x, 3))
    (kk : ∀ (H1 : Heap) (locs1 : List Loc), pm_Rl τ cl acs D cA base b xl xs s (pm_setR M o j (some v)) H1 locs1 → W p l e R s mi args below meth c0 H1 locs1 cells slots Q (F0 mi (pc + 3) la rest)) : W p l e R s mi args below meth c0 H locs cells slots Q (F0 mi pc la (.ref (base + v) :: .ref (base + o) :: rest)) := by
  obtain ⟨q, hq, hj, hlk⟩ := hok.2.2.1 n x c j hf
  obtain ⟨hRn, hin, hnm, ty, hty, hso⟩ := hok.2.1 c q hq
  have hke : pm_k M o = (2 * c + 2, (pm_k M o).2) := by rw [← hk]
  obtain ⟨⟨q', hq', hlen⟩, cell, q1, q2, q3, q4⟩ := (hR.1.2.2 o).1 c (pm_k M o).2 hke
  obtain rfl : q' = q := Option.some.inj (hq'.symm.trans hq)
  obtain ⟨C, T, N⟩ := q'
  have hap := va_apart (own := Rn n) hts hin ty hty hnm hK.1 hq
  obtain ⟨hS, hfc, kC, hkC, hkind⟩ := hK.1.1 c _ hq
  obtain ⟨cf, kf, fi, f, hi, hsl⟩ := hS j hj
  dsimp only at hj hlen hin hnm hty hso hi hlk hRn
  obtain ⟨hrt, hfin, hdecl⟩ : ((∃ n, ty j = .object n) ∨ ∃ t, ty j = .array t) ∧ (T j).2.2.2 = true ∧ (T j).1 = C := by
    rcases hso j hj with ⟨h, -, -⟩ | ⟨h, -, -⟩ | ⟨-, h⟩
    · rw [hv] at h; cases h
    · rw [hv] at h; cases h
    · exact h
  have hn : narrow (ty j) (.ref (base + v)) = .ref (base + v) ∧ fits (ty j) (.ref (base + v)) = true := by
    rcases hrt with ⟨z, h⟩ | ⟨z, h⟩ <;> rw [h] <;> exact ⟨rfl, rfl⟩
  have hlay := hts _ (hin _ (u_in_lay hj))
  unfold u_lay at hlay
  rw [if_pos hfin] at hlay
  have hst := (u_facts hfc hkC (u_lays hts hin hj) hi).1
  have hcf : mi.cls = cf := by
    obtain ⟨_, _, c', _, _, _, -, -, hf', -, -, -, hown2, -⟩ := Jvm.Cond.laysFinal_spec hlay
    have e1 : c' = cf := by have := hi.symm.trans hf'; simp at this; exact this.1.symm
    rw [hdecl, ← hRn, ← hnc] at hown2
    rw [← e1]; exact Option.some.inj (hown.symm.trans hown2)
  have h6 := u_fits hfc hkC hkind (Or.inr hlay) hi (hty j hj) hn.1 hn.2
  have hjl : j < (pm_k M o).2 := by rw [← hlen]; exact hj
  refine W.putFinK hx hb hown (hts _ hlk) hi hst hcf hname (by rw [q2]; exact h6) q1 q3 (by rw [hsl]; exact k2_hasslot (q4 j hjl)) rfl rfl hdg fun H' e1 e2 e3 => ?_
  rw [hsl] at e1 ⊢
  refine kk H' _ (hR.put hbb e2 e3 rfl (fun _ => rfl) (fun a ha i => ?_) (fun _ _ _ => rfl) ⟨fun c' n' he => ?_, fun n' he => ?_, fun c' n' he => ?_⟩)
  · show pm_u2 _ _ _ _ _ _ = _
    unfold pm_u2
    rw [if_neg (fun h => ha h.1)]; rfl
  · have he : pm_k M o = (2 * c' + 2, n') := he
    obtain rfl : c' = c := by rw [he] at hk; dsimp only at hk; omega
    obtain rfl : n' = (pm_k M o).2 := by rw [he]
    refine ⟨⟨_, hq, hlen⟩, _, e1, q2, q3, fun i hi' => ?_⟩
    rw [t_set q4 (by rw [← hlen]; exact hap) hjl (.ref (base + v)) i hi']
    unfold updV
    dsimp only
    by_cases hij : i = j
    · subst hij
      rw [if_pos rfl, if_pos hv]
      have h0 : pm_rs (pm_setR M o i (some v)) o i = some v := by
        show pm_u2 _ _ _ _ _ _ = _
        unfold pm_u2
        rw [if_pos ⟨rfl, rfl⟩]
      rw [h0]; rfl
    · rw [if_neg hij]
      have h0 : pm_rs (pm_setR M o j (some v)) o i = pm_rs M o i := by
        show pm_u2 _ _ _ _ _ _ = _
        unfold pm_u2
        rw [if_neg (fun h => hij h.2)]; rfl
      rw [h0]
      rfl
  · have he : pm_k M o = (1, n') := he
    rw [he] at hk; dsimp only at hk; omega
  · have he : pm_k M o = (2 * c' + 3, n') := he
    rw [he] at hk; dsimp only at hk; omega
/-- iaload -/
theorem pm_ialdW {o : Nat} {i : Int32} (hx : p.tables.exec = Jvm.exec) (hb : c0.code = cc) (hK : pm_K cl acs D cA s) (hR : pm_Pic τ cl acs D cA base M H) (hk : (pm_k M o).1 = 1) (hin : ¬ (i < 0 ∨ (pm_k M o).2 ≤ i.toNatClampNeg)) (hdg : decode cc pc = .ok (.iaload, 1))
    (kk : W p l e R s mi args below meth c0 H locs cells slots Q (F0 mi (pc + 1) la (.int (pm_is M o i.toNatClampNeg) :: rest))) : W p l e R s mi args below meth c0 H locs cells slots Q (F0 mi pc la (.int i :: .ref (base + o) :: rest)) := by
  have hat := (hR.2.2 o).2.1 (pm_k M o).2 (by rw [← hk])
  have hlt : i.toNatClampNeg < (pm_k M o).2 := Nat.not_le.mp fun q => hin (Or.inr q)
  exact W.iald (v := .int (pm_is M o i.toNatClampNeg)) hx hb hat (hK.2.1.1 _ _) (fun q => by cases q) (by rw [arrV_size]; exact hin) (by rw [arrV_read _ _ hlt]) rfl rfl hdg kk
theorem pm_alenW {o : Nat} (hx : p.tables.exec = Jvm.exec) (hb : c0.code = cc) (hK : pm_K cl acs D cA s) (hR : pm_Pic τ cl acs D cA base M H) (hk : (pm_k M o).1 = 1) (hdg : decode cc pc = .ok (.arraylength, 1))
    (kk : W p l e R s mi args below meth c0 H locs cells slots Q (F0 mi (pc + 1) la (.int (Int32.ofNat (pm_k M o).2) :: rest))) : W p l e R s mi args below meth c0 H locs cells slots Q (F0 mi pc la (.ref (base + o) :: rest)) := by
  have hat := (hR.2.2 o).2.1 (pm_k M o).2 (by rw [← hk])
  exact W.alen (n := Int32.ofNat (pm_k M o).2) hx hb hat (hK.2.1.1 _ _) (by rw [arrV_size] <;> rfl) rfl rfl hdg kk
/-- iastore -/
theorem pm_iastW {o : Nat} {i v : Int32} (hx : p.tables.exec = Jvm.exec) (hb : c0.code = cc) (hK : pm_K cl acs D cA s) (hbb : b < base) (hR : pm_Rl τ cl acs D cA base b xl xs s M H locs) (hk : (pm_k M o).1 = 1) (hin : ¬ (i < 0 ∨ (pm_k M o).2 ≤ i.toNatClampNeg)) (hdg : decode cc pc = .ok (.iastore, 1))
    (kk : ∀ (H1 : Heap) (locs1 : List Loc), pm_Rl τ cl acs D cA base b xl xs s (pm_setI M o i.toNatClampNeg v) H1 locs1 → W p l e R s mi args below meth c0 H1 locs1 cells slots Q (F0 mi (pc + 1) la rest)) : W p l e R s mi args below meth c0 H locs cells slots Q (F0 mi pc la (.int v :: .int i :: .ref (base + o) :: rest)) := by
  have hat := (hR.1.2.2 o).2.1 (pm_k M o).2 (by rw [← hk])
  refine W.iast hx hb hat (hK.2.1.1 _ _) (fun q => by cases q) (by rw [arrV_size]; exact hin) rfl rfl hdg fun H' e z oq => ?_
  refine kk H' _ (hR.put hbb z oq rfl (fun _ => rfl) (fun _ _ _ => rfl) (fun a ha j => ?_) ⟨fun c' n' he => ?_, fun n' he => ?_, fun c' n' he => ?_⟩)
  · show pm_u2 _ _ _ _ _ _ = _
    unfold pm_u2
    rw [if_neg (fun h => ha h.1)]; rfl
  · have he : pm_k M o = (2 * c' + 2, n') := he
    rw [he] at hk; dsimp only at hk; omega
  · have he : pm_k M o = (1, n') := he
    obtain rfl : n' = (pm_k M o).2 := by rw [he]
    rw [e, arrV_store]
    refine congrArg some (congrArg (arrV _ _) (funext fun j => ?_))
    show updV _ _ _ _ = Value.int (pm_u2 _ _ _ _ _ _)
    unfold updV pm_u2
    by_cases hj : j = i.toNatClampNeg
    · rw [if_pos hj, if_pos ⟨rfl, hj⟩]
    · rw [if_neg hj, if_neg (fun h => hj h.2)]; rfl
  · have he : pm_k M o = (2 * c' + 3, n') := he
    rw [he] at hk; dsimp only at hk; omega
/-- aaload -/
theorem pm_aaldW {o c : Nat} {i : Int32} (hx : p.tables.exec = Jvm.exec) (hb : c0.code = cc) (hok : pm_ok τ cl acs Rn Ts) (hK : pm_K cl acs D cA s) (hR : pm_Pic τ cl acs D cA base M H) (hk : (pm_k M o).1 = 2 * c + 3) (hin : ¬ (i < 0 ∨ (pm_k M o).2 ≤ i.toNatClampNeg)) (hdg : decode cc pc = .ok (.aaload, 1))
    (kk : W p l e R s mi args below meth c0 H locs cells slots Q (F0 mi (pc + 1) la (pm_sh base b (pm_rv (pm_rs M o i.toNatClampNeg)) :: rest))) : W p l e R s mi args below meth c0 H locs cells slots Q (F0 mi pc la (.int i :: .ref (base + o) :: rest)) := by
  obtain ⟨hac, hat⟩ := (hR.2.2 o).2.2 c (pm_k M o).2 (by rw [← hk])
  obtain ⟨q, hq⟩ := hok.2.2.2.2.2.2.2.1 c hac
  have hlt : i.toNatClampNeg < (pm_k M o).2 := Nat.not_le.mp fun q => hin (Or.inr q)
  rw [pm_sh_rv] at kk
  exact W.aald (v := va_rf ((pm_rs M o i.toNatClampNeg).map (fun o => base + o))) (ty := .object q.1) hx hb hat ((hK.2.2 c hac q hq).1.1 _ _) rfl (fun q => by cases q) (by rw [arrV_size]; exact hin) (by rw [arrV_read _ _ hlt]) rfl rfl hdg kk
/-- aastore -/
theorem pm_aastW {o c v : Nat} {i : Int32} (hx : p.tables.exec = Jvm.exec) (hb : c0.code = cc) (hok : pm_ok τ cl acs Rn Ts) (hK : pm_K cl acs D cA s) (hbb : b < base) (hR : pm_Rl τ cl acs D cA base b xl xs s M H locs) (hk : (pm_k M o).1 = 2 * c + 3) (hin : ¬ (i < 0 ∨ (pm_k M o).2 ≤ i.toNatClampNeg)) (hv : (pm_k M v).1 = 2 * c + 2) (hdg : decode cc pc = .ok (.aastore, 1))
    (kk : ∀ (H1 : Heap) (locs1 : List Loc), pm_Rl τ cl acs D cA base b xl xs s (pm_setR M o i.toNatClampNeg (some v)) H1 locs1 → W p l e R s mi args below meth c0 H1 locs1 cells slots Q (F0 mi (pc + 1) la rest)) : W p l e R s mi args below meth c0 H locs cells slots Q (F0 mi pc la (.ref (base + v) :: .int i :: .ref (base + o) :: rest)) := by
  obtain ⟨hac, hat⟩ := (hR.1.2.2 o).2.2 c (pm_k M o).2 (by rw [← hk])
  obtain ⟨q, hq⟩ := hok.2.2.2.2.2.2.2.1 c hac
  have hlt : i.toNatClampNeg < (pm_k M o).2 := Nat.not_le.mp fun q => hin (Or.inr q)
  have h0 : ¬ i < 0 := fun q => hin (Or.inl q)
  obtain ⟨-, cellV, g1, g2, g3, -⟩ := (hR.1.2.2 v).1 c (pm_k M v).2 (by rw [← hv])
  have hcls := (hK.1.1 c q hq).2
  obtain ⟨kA, comp, k1, k2, k3, -⟩ := (hK.2.2 c hac q hq).1.2
  obtain rfl : comp = D.1 c := Option.some.inj (k3.symm.trans hcls.1)
  have hclsA := hcls
  obtain ⟨-, kC, hkC, -⟩ := hcls
  refine W.aast hx hb hat (fun q h => by cases h) (fun h => by cases h) k1 k2 rfl hkC ⟨h0, by rw [arrV_size]; exact hlt⟩ g1 (fun q h => by rw [g3] at h; cases h) (by rw [g2]; exact hkC) (by rw [g2]; exact va_assign hclsA) rfl rfl hdg fun H' e z oq => ?_
  refine kk H' _ (hR.put hbb z oq rfl (fun _ => rfl) (fun a ha j => ?_) (fun _ _ _ => rfl) ⟨fun c' n' he => ?_, fun n' he => ?_, fun c' n' he => ?_⟩)
  · show pm_u2 _ _ _ _ _ _ = _
    unfold pm_u2
    rw [if_neg (fun h => ha h.1)]; rfl
  · have he : pm_k M o = (2 * c' + 2, n') := he
    rw [he] at hk; dsimp only at hk; omega
  · have he : pm_k M o = (1, n') := he
    rw [he] at hk; dsimp only at hk; omega
  · have he : pm_k M o = (2 * c' + 3, n') := he
    obtain rfl : c' = c := by rw [he] at hk; dsimp only at hk; omega
    obtain rfl : n' = (pm_k M o).2 := by rw [he]
    refine ⟨hac, ?_⟩
    rw [e, arrV_store]
    refine congrArg some (congrArg (arrV _ _) (funext fun j => ?_))
    show updV _ _ _ _ = va_rf (Option.map _ (pm_u2 _ _ _ _ _ _))
    unfold updV pm_u2
    by_cases hj : j = i.toNatClampNeg
    · rw [if_pos hj, if_pos ⟨rfl, hj⟩]; rfl
    · rw [if_neg hj, if_neg (fun h => hj h.2)]; rfl
/-- new -/
theorem pm_newW {c : Nat} (hx : p.tables.exec = Jvm.exec) (hb : c0.code = cc) (hok : pm_ok τ cl acs Rn Ts) (hts : ∀ w ∈ Ts, w.before args s = true) (hown : s.vm.findClass (Rn n) = some mi.cls) (hK : pm_K cl acs D cA s) (hbb : b < base) (hR : pm_Rl τ cl acs D cA base b xl xs s M H locs) (hn : pm_tn τ n x = some c) (hcells : cells + 1 ≤ R.cells) (hslots : slots + pm_tl τ c ≤ R.slots) (hdg : decode cc pc = .ok (.new x, 3))
    (kk : ∀ H1 : Heap, pm_Rl τ cl acs D cA base b xl xs s (pm_new M (2 * c + 2) (pm_tl τ c)) H1 locs → W p l e R s mi args below meth c0 H1 locs (cells + 1) (slots + pm_tl τ c) Q (F0 mi (pc + 3) la (.ref (base + M.1) :: rest))) : W p l e R s mi args below meth c0 H locs cells slots Q (F0 mi pc la rest) := by
  obtain ⟨q, hq, hl, h1, h2, h3⟩ := hok.2.2.2.2.1 n x c hn
  obtain ⟨hRn, hin, hnm, ty, hty, hso⟩ := hok.2.1 c q hq
  have hKn := hK.1.1 c _ hq
  rw [hl] at hslots kk
  refine W.newcK hx hb hown (hts _ h1) (hts _ h2) (hts _ h3) rfl hdg hcells hslots hKn.2.1 hR.1.1 fun H1 kC hkC e1 z1 o1 => ?_
  refine kk H1 (hR.new hbb (by rw [z1, hR.1.1]) (fun q hq => o1 q (by rw [← hR.1.1]; exact hq)) ⟨fun c' n' he => ?_, fun n' he => ?_, fun c' n' he => ?_⟩)
  · rw [pm_new_k, if_pos rfl] at he
    have he1 : 2 * c + 2 = 2 * c' + 2 := congrArg Prod.fst he
    have he2 : q.2.2 = n' := congrArg Prod.snd he
    obtain rfl : c' = c := by omega
    subst he2
    refine ⟨⟨q, hq, rfl⟩, (u_born ty hts hin hKn hkC e1 hty).to fun j hj => ?_⟩
    rw [pm_new_r, if_pos rfl, pm_new_i, if_pos rfl]
    rcases hso j hj with ⟨h, h', -⟩ | ⟨h, h', -⟩ | ⟨h, h', -⟩
    · rw [h, h']; rfl
    · rw [h, h']; rfl
    · rw [if_pos h]
      rcases h' with ⟨z, h'⟩ | ⟨z, h'⟩ <;> rw [h'] <;> rfl
  · rw [pm_new_k, if_pos rfl] at he
    cases he
  · rw [pm_new_k, if_pos rfl] at he
    have : 2 * c + 2 = 2 * c' + 3 := congrArg Prod.fst he
    omega
/-- newarray of ints -/
theorem pm_newaW {i : Int32} (hx : p.tables.exec = Jvm.exec) (hb : c0.code = cc) (hok : pm_ok τ cl acs Rn Ts) (hts : ∀ w ∈ Ts, w.before args s = true) (hK : pm_K cl acs D cA s) (hbb : b < base) (hR : pm_Rl τ cl acs D cA base b xl xs s M H locs) (hn : ¬ i < 0) (hN : i.toNatClampNeg ≤ 100000) (hcells : cells + 1 ≤ R.cells) (hslots : slots + i.toNatClampNeg ≤ R.slots) (hdg : decode cc pc = .ok (.newarray .int, 2))
    (kk : ∀ H1 : Heap, pm_Rl τ cl acs D cA base b xl xs s (pm_new M 1 i.toNatClampNeg) H1 locs → W p l e R s mi args below meth c0 H1 locs (cells + 1) (slots + i.toNatClampNeg) Q (F0 mi (pc + 2) la (.ref (base + M.1) :: rest))) : W p l e R s mi args below meth c0 H locs cells slots Q (F0 mi pc la (.int i :: rest)) := by
  refine va_newaK (atype := .int) hx hb (hts _ hok.2.2.2.2.2.2.1) rfl hdg rfl hn rfl (by show _ * 4 ≤ _; omega) hcells hslots hR.1.1 fun H1 c e1 z1 o1 hAr hNm => ?_
  have hc : c = cA 1 := Option.some.inj (hNm.symm.trans hK.2.1.2)
  refine kk H1 (hR.new hbb (by rw [z1, hR.1.1]) (fun q hq => o1 q (by rw [← hR.1.1]; exact hq)) ⟨fun c' n' he => ?_, fun n' he => ?_, fun c' n' he => ?_⟩)
  · rw [pm_new_k, if_pos rfl] at he
    have : 1 = 2 * c' + 2 := congrArg Prod.fst he
    omega
  · rw [pm_new_k, if_pos rfl] at he
    cases he
    rw [e1, hc]
    refine congrArg some (congrArg (arrV _ _) (funext fun j => ?_))
    rw [pm_new_i, if_pos rfl]
    rfl
  · rw [pm_new_k, if_pos rfl] at he
    have : 1 = 2 * c' + 3 := congrArg Prod.fst he
    omega
/-- anewarray -/
theorem pm_anewW {c : Nat} {i : Int32} (hx : p.tables.exec = Jvm.exec) (hb : c0.code = cc) (hok : pm_ok τ cl acs Rn Ts) (hts : ∀ w ∈ Ts, w.before args s = true) (hown : s.vm.findClass (Rn n) = some mi.cls) (hK : pm_K cl acs D cA s) (hbb : b < base) (hR : pm_Rl τ cl acs D cA base b xl xs s M H locs) (ha : pm_ta τ n x = some c) (hn : ¬ i < 0) (hN : i.toNatClampNeg ≤ 100000) (hcells : cells + 1 ≤ R.cells) (hslots : slots + i.toNatClampNeg ≤ R.slots) (hdg : decode cc pc = .ok (.anewarray x, 3))
    (kk : ∀ H1 : Heap, pm_Rl τ cl acs D cA base b xl xs s (pm_new M (2 * c + 3) i.toNatClampNeg) H1 locs → W p l e R s mi args below meth c0 H1 locs (cells + 1) (slots + i.toNatClampNeg) Q (F0 mi (pc + 3) la (.ref (base + M.1) :: rest))) : W p l e R s mi args below meth c0 H locs cells slots Q (F0 mi pc la (.int i :: rest)) := by
  obtain ⟨hac, q, hq, h1⟩ := hok.2.2.2.2.2.1 n x c ha
  obtain ⟨⟨hAr, hRA⟩, hAO⟩ := hK.2.2 c hac q hq
  obtain ⟨kA', comp', k1, k2, k3, k4⟩ := hRA
  refine W.anew hx hb hown (hts _ h1) (va_AO.use hAO) rfl hdg rfl hn (by omega) hcells hslots fun ca kA comp f1 f2 f3 f4 => ?_
  have hc : ca = cA (2 * c + 3) := Option.some.inj (f1.symm.trans k4)
  generalize hH1 : H.push ({ cls := ca, slots := Array.replicate i.toNatClampNeg .null, vm := .none } : Cell) = H1
  have z1 : H1.size = H.size + 1 := by rw [← hH1, Array.size_push]
  have e1 : H1[H.size]? = some (arrV ca i.toNatClampNeg (fun _ => .null)) := by rw [← hH1, Array.getElem?_push_size, ← arrV_new]
  have o1 : ∀ q : Nat, q < H.size → H1[q]? = H[q]? := fun q hq => by rw [← hH1, Array.getElem?_push, if_neg (Nat.ne_of_lt hq)]
  have hat : pm_at τ cl acs D cA base (pm_new M (2 * c + 3) i.toNatClampNeg) H1 M.1 := by
    refine ⟨fun c' n' he => ?_, fun n' he => ?_, fun c' n' he => ?_⟩
    · rw [pm_new_k, if_pos rfl] at he
      have : 2 * c + 3 = 2 * c' + 2 := congrArg Prod.fst he
      omega
    · rw [pm_new_k, if_pos rfl] at he
      have : 2 * c + 3 = 1 := congrArg Prod.fst he
      omega
    · rw [pm_new_k, if_pos rfl] at he
      have he1 : 2 * c + 3 = 2 * c' + 3 := congrArg Prod.fst he
      have he2 : i.toNatClampNeg = n' := congrArg Prod.snd he
      obtain rfl : c' = c := by omega
      subst he2
      refine ⟨hac, ?_⟩
      rw [← hR.1.1, e1, hc]
      refine congrArg some (congrArg (arrV _ _) (funext fun j => ?_))
      rw [pm_new_r, if_pos rfl]
      rfl
  have kk1 := kk H1 (hR.new hbb z1 o1 hat)
  rw [← hR.1.1] at kk1
  exact kk1
end PMR
end
section
/-! one instruction of the pure machine, on the real one -/
theorem pm_bin_spec {f : Int32 → Int32 → Int32} {st q : List Value} (h : pm_bin f st = some q) : ∃ x y rest, st = .int y :: .int x :: rest ∧ q = .int (f x y) :: rest := by
  unfold pm_bin at h
  split at h
  · cases h; exact ⟨_, _, _, rfl, rfl⟩
  · cases h
theorem pm_ldi_spec {ls : pm_L} {k : Nat} {x : Int32} (h : pm_ldi ls k = some x) : ls[k]? = some (some (.int x)) := by
  unfold pm_ldi at h
  split at h
  · rename_i hx; cases h; exact hx
  · cases h
theorem pm_lda_spec {ls : pm_L} {k : Nat} {v : Value} (base b : Nat) (h : pm_lda ls k = some v) : (ls[k]? = some (some v) ∧ pm_c1 v = true) ∧ ∃ a, pm_sh base b v = .ref a := by
  unfold pm_lda at h
  split at h
  · rename_i hx; cases h; exact ⟨⟨hx, rfl⟩, _, rfl⟩
  · rename_i hx; cases h; exact ⟨⟨hx, rfl⟩, _, rfl⟩
  · cases h
theorem pm_sti_spec {w : List Nat} {ls : pm_L} {k : Nat} {st : List Value} {q : pm_L × List Value} (h : pm_sti w ls k st = some q) : ∃ x rest, st = .int x :: rest ∧ (k < ls.length ∧ pm_nl w k = true) ∧ q = (ls.set k (some (.int x)), rest) := by
  unfold pm_sti at h
  split at h
  · split at h
    · rename_i hk; cases h; exact ⟨_, _, rfl, hk, rfl⟩
    · cases h
  · cases h
theorem pm_sta_spec {w : List Nat} {ls : pm_L} {k : Nat} {st : List Value} {q : pm_L × List Value} (h : pm_sta w ls k st = some q) : ∃ a rest, st = .ref a :: rest ∧ (k < ls.length ∧ pm_nl w k = true) ∧ q = (ls.set k (some (.ref a)), rest) := by
  unfold pm_sta at h
  split at h
  · split at h
    · rename_i hk; cases h; exact ⟨_, _, rfl, hk, rfl⟩
    · cases h
  · cases h
theorem pm_stl_spec {w : List Nat} {ls : pm_L} {k : Nat} {st : List Value} {q : pm_L × List Value} (h : pm_stl w ls k st = some q) : ∃ a rest, st = .long a :: rest ∧ (k + 1 < ls.length ∧ pm_nl w k = true) ∧ q = ((ls.set k (some (.long a))).set (k + 1) none, rest) := by
  unfold pm_stl at h
  split at h
  · split at h
    · rename_i hk; cases h; exact ⟨_, _, rfl, hk, rfl⟩
    · cases h
  · cases h
theorem pm_ldl_spec {w : List Nat} {ls : pm_L} {k : Nat} {x : Int64} (h : pm_ldl w ls k = some x) : ls[k]? = some (some (.long x)) ∧ w.contains k = true := by
  unfold pm_ldl at h
  split at h
  · rename_i hx
    split at h
    · rename_i hc; cases h; exact ⟨hx, hc⟩
    · cases h
  · cases h
theorem pm_binL_spec {f : Int64 → Int64 → Int64} {st q : List Value} (h : pm_binL f st = some q) : ∃ x y rest, st = .long y :: .long x :: rest ∧ q = .long (f x y) :: rest := by
  unfold pm_binL at h
  split at h
  · cases h; exact ⟨_, _, _, rfl, rfl⟩
  · cases h
theorem pm_jmp_spec {pc t : Nat} {off : Int} (h : pm_jmp pc off = some t) : (pc : Int) + off = (t : Int) := by
  unfold pm_jmp at h
  split at h
  · cases h; omega
  · cases h
section PMN
variable {p : Program} {l : Launch} {e : Env} {R : Room} {s : State} {mi : MethodId} {args : Array Value} {below : List Frame} {meth : Method} {c0 : Code} {H : Heap} {locs : List Loc} {cells slots : Nat} {Q : State → Prop}
variable {la : Array Slot}
variable {τ : pm_T} {cl : List vw_C} {acs : List Nat} {Rn : Nat → String} {Ts : List Jvm.Cond} {D : va_G} {cA : Nat → ClassId} {base b xl : Nat} {xs : Nat → Int32}
set_option maxHeartbeats 4000000 in
theorem pm_nxW {m : pm_M} {pc pc' len : Nat} {ls ls' : pm_L} {st st' : List Value} {M M' : pm_H} {i : Instr}
    (hx : p.tables.exec = Jvm.exec) (hb : c0.code = pm_b m) (hok : pm_ok τ cl acs Rn Ts) (hts : ∀ w ∈ Ts, w.before args s = true) (hown : s.vm.findClass (Rn (pm_n m)) = some mi.cls) (hname : (pm_y m).name = "<init>" → meth.name = "<init>") (hml : c0.maxLocals = pm_l m) (hRf : R.frames = pm_f m) (hRo : R.locals = pm_o m) (hK : pm_K cl acs D cA s) (hbb : b < base)
    (hd : decode (pm_b m) pc = .ok (i, len)) (hln : pm_ln i len = true) (hn : pm_nx τ m xl xs pc ls st M i = some (pc', ls', st', M')) (hR : pm_Rl τ cl acs D cA base b xl xs s M H locs) (hl : lv_has la (pm_l m) (pm_as (pm_w m) base b ls)) (hlen : ls.length = pm_l m) (hcell : cells + (M'.1 - M.1) ≤ R.cells) (hslot : slots + (M'.2.1 - M.2.1) ≤ R.slots)
    (kk : ∀ (H1 : Heap) (locs1 : List Loc) (la1 : Array Slot), pm_Rl τ cl acs D cA base b xl xs s M' H1 locs1 → lv_has la1 (pm_l m) (pm_as (pm_w m) base b ls') → ls'.length = pm_l m → W p l e R s mi args below meth c0 H1 locs1 (cells + (M'.1 - M.1)) (slots + (M'.2.1 - M.2.1)) Q (F0 mi pc' la1 (st'.map (pm_sh base b)))) :
    W p l e R s mi args below meth c0 H locs cells slots Q (F0 mi pc la (st.map (pm_sh base b))) := by
  have kk0 : M' = M → ∀ la1 : Array Slot, lv_has la1 (pm_l m) (pm_as (pm_w m) base b ls') → ls'.length = pm_l m → W p l e R s mi args below meth c0 H locs cells slots Q (F0 mi pc' la1 (st'.map (pm_sh base b))) := by
    rintro rfl la1 h1 h2
    have := kk H locs la1 hR h1 h2
    rwa [Nat.sub_self, Nat.sub_self, Nat.add_zero, Nat.add_zero] at this
  have kk1 : M'.1 = M.1 → M'.2.1 = M.2.1 → ls' = ls → ∀ (H1 : Heap) (locs1 : List Loc), pm_Rl τ cl acs D cA base b xl xs s M' H1 locs1 → W p l e R s mi args below meth c0 H1 locs1 cells slots Q (F0 mi pc' la (st'.map (pm_sh base b))) := by
    rintro e1 e2 rfl H1 locs1 h1
    have := kk H1 locs1 la h1 hl hlen
    rwa [e1, e2, Nat.sub_self, Nat.sub_self, Nat.add_zero, Nat.add_zero] at this
  cases i with
  | iconst n =>
    obtain rfl : len = 1 := by simpa [pm_ln] using hln
    simp only [pm_nx, Option.some.injEq, Prod.mk.injEq] at hn
    obtain ⟨rfl, rfl, rfl, rfl⟩ := hn
    exact lv_iconst hx hb hd rfl (kk0 rfl la hl hlen)
  | bipush n =>
    obtain rfl : len = 2 := by simpa [pm_ln] using hln
    simp only [pm_nx, Option.some.injEq, Prod.mk.injEq] at hn
    obtain ⟨rfl, rfl, rfl, rfl⟩ := hn
    exact lv_bipush hx hb hd rfl (kk0 rfl la hl hlen)
  | sipush n =>
    obtain rfl : len = 3 := by simpa [pm_ln] using hln
    simp only [pm_nx, Option.some.injEq, Prod.mk.injEq] at hn
    obtain ⟨rfl, rfl, rfl, rfl⟩ := hn
    exact lv_sipush hx hb hd rfl (kk0 rfl la hl hlen)
  | ldc x =>
    obtain rfl : len = 2 := by simpa [pm_ln] using hln
    simp only [pm_nx, Option.bind_eq_some_iff, Option.some.injEq, Prod.mk.injEq] at hn
    obtain ⟨v, hv, rfl, rfl, rfl, rfl⟩ := hn
    exact lv_ldc hx hb hown (hts _ (hok.2.2.2.1.1 _ _ _ hv)) hd (kk0 rfl la hl hlen)
  | ldc_w x =>
    obtain rfl : len = 3 := by simpa [pm_ln] using hln
    simp only [pm_nx, Option.bind_eq_some_iff, Option.some.injEq, Prod.mk.injEq] at hn
    obtain ⟨v, hv, rfl, rfl, rfl, rfl⟩ := hn
    exact lv_ldcw hx hb hown (hts _ (hok.2.2.2.1.1 _ _ _ hv)) hd (kk0 rfl la hl hlen)
  | iload_n k =>
    obtain rfl : len = 1 := by simpa [pm_ln] using hln
    simp only [pm_nx, Option.bind_eq_some_iff, Option.some.injEq, Prod.mk.injEq] at hn
    obtain ⟨v, hv, rfl, rfl, rfl, rfl⟩ := hn
    exact lv_iload_n hx hb hd rfl (pm_as_at hl (Or.inl rfl) (pm_ldi_spec hv)) (kk0 rfl la hl hlen)
  | iload k =>
    obtain rfl : len = 2 := by simpa [pm_ln] using hln
    simp only [pm_nx, Option.bind_eq_some_iff, Option.some.injEq, Prod.mk.injEq] at hn
    obtain ⟨v, hv, rfl, rfl, rfl, rfl⟩ := hn
    exact lv_iload hx hb hd (pm_as_at hl (Or.inl rfl) (pm_ldi_spec hv)) (kk0 rfl la hl hlen)
  | aload_n k =>
    obtain rfl : len = 1 := by simpa [pm_ln] using hln
    simp only [pm_nx, Option.bind_eq_some_iff, Option.some.injEq, Prod.mk.injEq] at hn
    obtain ⟨v, hv, rfl, rfl, rfl, rfl⟩ := hn
    obtain ⟨h1, a, h2⟩ := pm_lda_spec base b hv
    have h3 := pm_as_at hl (Or.inl h1.2) h1.1
    have h4 := kk0 rfl la hl hlen
    rw [List.map_cons, h2] at h4
    rw [h2] at h3
    exact lv_aload_n hx hb hd rfl h3 h4
  | aload k =>
    obtain rfl : len = 2 := by simpa [pm_ln] using hln
    simp only [pm_nx, Option.bind_eq_some_iff, Option.some.injEq, Prod.mk.injEq] at hn
    obtain ⟨v, hv, rfl, rfl, rfl, rfl⟩ := hn
    obtain ⟨h1, a, h2⟩ := pm_lda_spec base b hv
    have h3 := pm_as_at hl (Or.inl h1.2) h1.1
    have h4 := kk0 rfl la hl hlen
    rw [List.map_cons, h2] at h4
    rw [h2] at h3
    exact lv_aload hx hb hd h3 h4
  | istore_n k =>
    obtain rfl : len = 1 := by simpa [pm_ln] using hln
    simp only [pm_nx, Option.bind_eq_some_iff, Option.some.injEq, Prod.mk.injEq] at hn
    obtain ⟨q, hv, rfl, rfl, rfl, rfl⟩ := hn
    obtain ⟨x, rest, rfl, h1, rfl⟩ := pm_sti_spec hv
    exact lv_istore_n hx hb hd rfl hl (by rw [← hlen]; exact h1.1) rfl fun la1 h2 => kk0 rfl la1 (pm_as_set h1.2 (v := .int x) h2) (by simpa using hlen)
  | istore k =>
    obtain rfl : len = 2 := by simpa [pm_ln] using hln
    simp only [pm_nx, Option.bind_eq_some_iff, Option.some.injEq, Prod.mk.injEq] at hn
    obtain ⟨q, hv, rfl, rfl, rfl, rfl⟩ := hn
    obtain ⟨x, rest, rfl, h1, rfl⟩ := pm_sti_spec hv
    exact lv_istore hx hb hd hl (by rw [← hlen]; exact h1.1) rfl fun la1 h2 => kk0 rfl la1 (pm_as_set h1.2 (v := .int x) h2) (by simpa using hlen)
  | astore_n k =>
    obtain rfl : len = 1 := by simpa [pm_ln] using hln
    simp only [pm_nx, Option.bind_eq_some_iff, Option.some.injEq, Prod.mk.injEq] at hn
    obtain ⟨q, hv, rfl, rfl, rfl, rfl⟩ := hn
    obtain ⟨x, rest, rfl, h1, rfl⟩ := pm_sta_spec hv
    exact lv_astore_n hx hb hd rfl hl (by rw [← hlen]; exact h1.1) rfl fun la1 h2 => kk0 rfl la1 (pm_as_set h1.2 (v := .ref x) h2) (by simpa using hlen)
  | astore k =>
    obtain rfl : len = 2 := by simpa [pm_ln] using hln
    simp only [pm_nx, Option.bind_eq_some_iff, Option.some.injEq, Prod.mk.injEq] at hn
    obtain ⟨q, hv, rfl, rfl, rfl, rfl⟩ := hn
    obtain ⟨x, rest, rfl, h1, rfl⟩ := pm_sta_spec hv
    exact lv_astore hx hb hd hl (by rw [← hlen]; exact h1.1) rfl fun la1 h2 => kk0 rfl la1 (pm_as_set h1.2 (v := .ref x) h2) (by simpa using hlen)
  | iinc k n =>
    obtain rfl : len = 3 := by simpa [pm_ln] using hln
    simp only [pm_nx, Option.bind_eq_some_iff] at hn
    obtain ⟨x, hv, hn⟩ := hn
    split at hn
    · rename_i hk
      simp only [Option.some.injEq, Prod.mk.injEq] at hn
      obtain ⟨rfl, rfl, rfl, rfl⟩ := hn
      obtain ⟨j, hj⟩ := List.getElem?_of_mem (pm_as_mem.mpr ⟨_, pm_ldi_spec hv, Or.inl rfl, rfl⟩ : (k, pm_sh base b (.int x)) ∈ pm_as (pm_w m) base b ls)
      exact lv_iinc hx hb hd hl hj rfl (by rw [← hlen]; exact hk.1) rfl fun la1 h2 => kk0 rfl la1 (pm_as_set hk.2 (v := .int (x + Int32.ofInt n)) h2) (by simpa using hlen)
    · cases hn
  | iadd =>
    obtain rfl : len = 1 := by simpa [pm_ln] using hln
    simp only [pm_nx, Option.bind_eq_some_iff, Option.some.injEq, Prod.mk.injEq] at hn
    obtain ⟨q, hv, rfl, rfl, rfl, rfl⟩ := hn
    obtain ⟨x, y, rest, rfl, rfl⟩ := pm_bin_spec hv
    exact lv_iadd hx hb hd (kk0 rfl la hl hlen)
  | isub =>
    obtain rfl : len = 1 := by simpa [pm_ln] using hln
    simp only [pm_nx, Option.bind_eq_some_iff, Option.some.injEq, Prod.mk.injEq] at hn
    obtain ⟨q, hv, rfl, rfl, rfl, rfl⟩ := hn
    obtain ⟨x, y, rest, rfl, rfl⟩ := pm_bin_spec hv
    exact lv_isub hx hb hd (kk0 rfl la hl hlen)
  | imul =>
    obtain rfl : len = 1 := by simpa [pm_ln] using hln
    simp only [pm_nx, Option.bind_eq_some_iff, Option.some.injEq, Prod.mk.injEq] at hn
    obtain ⟨q, hv, rfl, rfl, rfl, rfl⟩ := hn
    obtain ⟨x, y, rest, rfl, rfl⟩ := pm_bin_spec hv
    exact lv_imul hx hb hd (kk0 rfl la hl hlen)
  | iand =>
    obtain rfl : len = 1 := by simpa [pm_ln] using hln
    simp only [pm_nx, Option.bind_eq_some_iff, Option.some.injEq, Prod.mk.injEq] at hn
    obtain ⟨q, hv, rfl, rfl, rfl, rfl⟩ := hn
    obtain ⟨x, y, rest, rfl, rfl⟩ := pm_bin_spec hv
    exact lv_iand hx hb hd (kk0 rfl la hl hlen)
  | ior =>
    obtain rfl : len = 1 := by simpa [pm_ln] using hln
    simp only [pm_nx, Option.bind_eq_some_iff, Option.some.injEq, Prod.mk.injEq] at hn
    obtain ⟨q, hv, rfl, rfl, rfl, rfl⟩ := hn
    obtain ⟨x, y, rest, rfl, rfl⟩ := pm_bin_spec hv
    exact lv_ior hx hb hd (kk0 rfl la hl hlen)
  | ixor =>
    obtain rfl : len = 1 := by simpa [pm_ln] using hln
    simp only [pm_nx, Option.bind_eq_some_iff, Option.some.injEq, Prod.mk.injEq] at hn
    obtain ⟨q, hv, rfl, rfl, rfl, rfl⟩ := hn
    obtain ⟨x, y, rest, rfl, rfl⟩ := pm_bin_spec hv
    exact lv_ixor hx hb hd (kk0 rfl la hl hlen)
  | ladd =>
    obtain rfl : len = 1 := by simpa [pm_ln] using hln
    simp only [pm_nx, Option.bind_eq_some_iff, Option.some.injEq, Prod.mk.injEq] at hn
    obtain ⟨q, hv, rfl, rfl, rfl, rfl⟩ := hn
    obtain ⟨x, y, rest, rfl, rfl⟩ := pm_binL_spec hv
    exact lv_ladd hx hb hd (kk0 rfl la hl hlen)
  | lmul =>
    obtain rfl : len = 1 := by simpa [pm_ln] using hln
    simp only [pm_nx, Option.bind_eq_some_iff, Option.some.injEq, Prod.mk.injEq] at hn
    obtain ⟨q, hv, rfl, rfl, rfl, rfl⟩ := hn
    obtain ⟨x, y, rest, rfl, rfl⟩ := pm_binL_spec hv
    exact lv_lmul hx hb hd (kk0 rfl la hl hlen)
  | i2l =>
    obtain rfl : len = 1 := by simpa [pm_ln] using hln
    simp only [pm_nx] at hn
    split at hn
    · simp only [Option.some.injEq, Prod.mk.injEq] at hn
      obtain ⟨rfl, rfl, rfl, rfl⟩ := hn
      exact lv_i2l hx hb hd rfl (kk0 rfl la hl hlen)
    · cases hn
  | lcmp =>
    obtain rfl : len = 1 := by simpa [pm_ln] using hln
    simp only [pm_nx] at hn
    split at hn
    · simp only [Option.some.injEq, Prod.mk.injEq] at hn
      obtain ⟨rfl, rfl, rfl, rfl⟩ := hn
      exact W.lcmp hx hb hd (kk0 rfl la hl hlen)
    · cases hn
  | lconst n =>
    obtain rfl : len = 1 := by simpa [pm_ln] using hln
    simp only [pm_nx, Option.some.injEq, Prod.mk.injEq] at hn
    obtain ⟨rfl, rfl, rfl, rfl⟩ := hn
    exact lv_lconst hx hb hd rfl (kk0 rfl la hl hlen)
  | ldc2_w x =>
    obtain rfl : len = 3 := by simpa [pm_ln] using hln
    simp only [pm_nx, Option.bind_eq_some_iff, Option.some.injEq, Prod.mk.injEq] at hn
    obtain ⟨v, hv, rfl, rfl, rfl, rfl⟩ := hn
    exact lv_ldc2 hx hb hown (hts _ (hok.2.2.2.1.2 _ _ _ hv)) hd (kk0 rfl la hl hlen)
  | lload_n k =>
    obtain rfl : len = 1 := by simpa [pm_ln] using hln
    simp only [pm_nx, Option.bind_eq_some_iff, Option.some.injEq, Prod.mk.injEq] at hn
    obtain ⟨v, hv, rfl, rfl, rfl, rfl⟩ := hn
    obtain ⟨h1, h2⟩ := pm_ldl_spec hv
    exact lv_lload_n hx hb hd rfl (pm_as_at hl (Or.inr h2) h1) (kk0 rfl la hl hlen)
  | lload k =>
    obtain rfl : len = 2 := by simpa [pm_ln] using hln
    simp only [pm_nx, Option.bind_eq_some_iff, Option.some.injEq, Prod.mk.injEq] at hn
    obtain ⟨v, hv, rfl, rfl, rfl, rfl⟩ := hn
    obtain ⟨h1, h2⟩ := pm_ldl_spec hv
    exact lv_lload hx hb hd (pm_as_at hl (Or.inr h2) h1) (kk0 rfl la hl hlen)
  | lstore_n k =>
    obtain rfl : len = 1 := by simpa [pm_ln] using hln
    simp only [pm_nx, Option.bind_eq_some_iff, Option.some.injEq, Prod.mk.injEq] at hn
    obtain ⟨q, hv, rfl, rfl, rfl, rfl⟩ := hn
    obtain ⟨x, rest, rfl, h1, rfl⟩ := pm_stl_spec hv
    exact lv_lstore_n hx hb hd rfl hl (by rw [← hlen]; exact h1.1) rfl fun la1 h2 => kk0 rfl la1 (pm_as_setL h1.2 h2) (by simpa using hlen)
  | lstore k =>
    obtain rfl : len = 2 := by simpa [pm_ln] using hln
    simp only [pm_nx, Option.bind_eq_some_iff, Option.some.injEq, Prod.mk.injEq] at hn
    obtain ⟨q, hv, rfl, rfl, rfl, rfl⟩ := hn
    obtain ⟨x, rest, rfl, h1, rfl⟩ := pm_stl_spec hv
    exact lv_lstore hx hb hd hl (by rw [← hlen]; exact h1.1) rfl fun la1 h2 => kk0 rfl la1 (pm_as_setL h1.2 h2) (by simpa using hlen)
  | ishl =>
    obtain rfl : len = 1 := by simpa [pm_ln] using hln
    simp only [pm_nx, Option.bind_eq_some_iff, Option.some.injEq, Prod.mk.injEq] at hn
    obtain ⟨q, hv, rfl, rfl, rfl, rfl⟩ := hn
    obtain ⟨x, y, rest, rfl, rfl⟩ := pm_bin_spec hv
    exact lv_ishl hx hb hd (kk0 rfl la hl hlen)
  | ishr =>
    obtain rfl : len = 1 := by simpa [pm_ln] using hln
    simp only [pm_nx, Option.bind_eq_some_iff, Option.some.injEq, Prod.mk.injEq] at hn
    obtain ⟨q, hv, rfl, rfl, rfl, rfl⟩ := hn
    obtain ⟨x, y, rest, rfl, rfl⟩ := pm_bin_spec hv
    exact lv_ishr hx hb hd (kk0 rfl la hl hlen)
  | iushr =>
    obtain rfl : len = 1 := by simpa [pm_ln] using hln
    simp only [pm_nx, Option.bind_eq_some_iff, Option.some.injEq, Prod.mk.injEq] at hn
    obtain ⟨q, hv, rfl, rfl, rfl, rfl⟩ := hn
    obtain ⟨x, y, rest, rfl, rfl⟩ := pm_bin_spec hv
    exact lv_iushr hx hb hd rfl (kk0 rfl la hl hlen)
  | idiv =>
    obtain rfl : len = 1 := by simpa [pm_ln] using hln
    simp only [pm_nx] at hn
    split at hn
    · split at hn
      · cases hn
      · rename_i hy
        simp only [Option.some.injEq, Prod.mk.injEq] at hn
        obtain ⟨rfl, rfl, rfl, rfl⟩ := hn
        exact lv_idiv hx hb hd hy (kk0 rfl la hl hlen)
    · cases hn
  | irem =>
    obtain rfl : len = 1 := by simpa [pm_ln] using hln
    simp only [pm_nx] at hn
    split at hn
    · split at hn
      · cases hn
      · rename_i hy
        simp only [Option.some.injEq, Prod.mk.injEq] at hn
        obtain ⟨rfl, rfl, rfl, rfl⟩ := hn
        exact lv_irem hx hb hd hy (kk0 rfl la hl hlen)
    · cases hn
  | dup =>
    obtain rfl : len = 1 := by simpa [pm_ln] using hln
    simp only [pm_nx] at hn
    split at hn
    · split at hn
      · rename_i hc
        simp only [Option.some.injEq, Prod.mk.injEq] at hn
        obtain ⟨rfl, rfl, rfl, rfl⟩ := hn
        exact lv_dup hx hb hd (pm_sh_cat _ _ _ hc) (kk0 rfl la hl hlen)
      · cases hn
    · cases hn
  | dup2 =>
    obtain rfl : len = 1 := by simpa [pm_ln] using hln
    simp only [pm_nx] at hn
    split at hn
    · split at hn
      · rename_i hc
        simp only [Option.some.injEq, Prod.mk.injEq] at hn
        obtain ⟨rfl, rfl, rfl, rfl⟩ := hn
        exact lv_dup2_11 hx hb hd (pm_sh_cat _ _ _ hc.1) (pm_sh_cat _ _ _ hc.2) (kk0 rfl la hl hlen)
      · cases hn
    · cases hn
  | pop =>
    obtain rfl : len = 1 := by simpa [pm_ln] using hln
    simp only [pm_nx] at hn
    split at hn
    · split at hn
      · rename_i hc
        simp only [Option.some.injEq, Prod.mk.injEq] at hn
        obtain ⟨rfl, rfl, rfl, rfl⟩ := hn
        exact lv_pop hx hb hd (pm_sh_cat _ _ _ hc) (kk0 rfl la hl hlen)
      · cases hn
    · cases hn
  | goto off =>
    obtain rfl : len = 3 := by simpa [pm_ln] using hln
    simp only [pm_nx, Option.bind_eq_some_iff, Option.some.injEq, Prod.mk.injEq] at hn
    obtain ⟨t, ht, rfl, rfl, rfl, rfl⟩ := hn
    exact lv_goto hx hb hd (pm_jmp_spec ht) (kk0 rfl la hl hlen)
  | ifCond c off =>
    obtain rfl : len = 3 := by simpa [pm_ln] using hln
    simp only [pm_nx] at hn
    split at hn
    · simp only [Option.bind_eq_some_iff, Option.some.injEq, Prod.mk.injEq] at hn
      obtain ⟨t, ht, rfl, rfl, rfl, rfl⟩ := hn
      have ht := pm_jmp_spec ht
      have k0 := kk0 rfl la hl hlen
      cases c with
      | eq => exact lv_if_eq hx hb hd ht (fun h => by rw [if_pos (by simpa [pm_cmp] using h)] at k0; exact k0) (fun h => by rw [if_neg (by simpa [pm_cmp] using h)] at k0; exact k0)
      | ne => exact lv_if_ne hx hb hd ht (fun h => by rw [if_pos (by simpa [pm_cmp] using h)] at k0; exact k0) (fun h => by rw [if_neg (by simpa [pm_cmp] using h)] at k0; exact k0)
      | lt => exact lv_if_lt hx hb hd ht (fun h => by rw [if_pos (by simpa [pm_cmp] using h)] at k0; exact k0) (fun h => by rw [if_neg (by simpa [pm_cmp] using h)] at k0; exact k0)
      | ge => exact lv_if_ge hx hb hd ht (fun h => by rw [if_pos (by simpa [pm_cmp] using h)] at k0; exact k0) (fun h => by rw [if_neg (by simpa [pm_cmp] using h)] at k0; exact k0)
      | gt => exact lv_if_gt hx hb hd ht (fun h => by rw [if_pos (by simpa [pm_cmp] using h)] at k0; exact k0) (fun h => by rw [if_neg (by simpa [pm_cmp] using h)] at k0; exact k0)
      | le => exact lv_if_le hx hb hd ht (fun h => by rw [if_pos (by simpa [pm_cmp] using h)] at k0; exact k0) (fun h => by rw [if_neg (by simpa [pm_cmp] using h)] at k0; exact k0)
    · cases hn
  | if_icmp c off =>
    obtain rfl : len = 3 := by simpa [pm_ln] using hln
    simp only [pm_nx] at hn
    split at hn
    · simp only [Option.bind_eq_some_iff, Option.some.injEq, Prod.mk.injEq] at hn
      obtain ⟨t, ht, rfl, rfl, rfl, rfl⟩ := hn
      have ht := pm_jmp_spec ht
      have k0 := kk0 rfl la hl hlen
      cases c with
      | eq => exact lv_icmp_eq hx hb hd ht (fun h => by rw [if_pos (by simpa [pm_cmp] using h)] at k0; exact k0) (fun h => by rw [if_neg (by simpa [pm_cmp] using h)] at k0; exact k0)
      | ne => exact lv_icmp_ne hx hb hd ht (fun h => by rw [if_pos (by simpa [pm_cmp] using h)] at k0; exact k0) (fun h => by rw [if_neg (by simpa [pm_cmp] using h)] at k0; exact k0)
      | lt => exact lv_icmp_lt hx hb hd ht (fun h => by rw [if_pos (by simpa [pm_cmp] using h)] at k0; exact k0) (fun h => by rw [if_neg (by simpa [pm_cmp] using h)] at k0; exact k0)
      | ge => exact lv_icmp_ge hx hb hd ht (fun h => by rw [if_pos (by simpa [pm_cmp] using h)] at k0; exact k0) (fun h => by rw [if_neg (by simpa [pm_cmp] using h)] at k0; exact k0)
      | gt => exact lv_icmp_gt hx hb hd ht (fun h => by rw [if_pos (by simpa [pm_cmp] using h)] at k0; exact k0) (fun h => by rw [if_neg (by simpa [pm_cmp] using h)] at k0; exact k0)
      | le => exact lv_icmp_le hx hb hd ht (fun h => by rw [if_pos (by simpa [pm_cmp] using h)] at k0; exact k0) (fun h => by rw [if_neg (by simpa [pm_cmp] using h)] at k0; exact k0)
    · cases hn
  | tableswitch dflt lo hi offs =>
    simp only [pm_nx] at hn
    split at hn
    · simp only [Option.bind_eq_some_iff, Option.some.injEq, Prod.mk.injEq] at hn
      obtain ⟨off, ho, t, ht, rfl, rfl, rfl, rfl⟩ := hn
      have ht := pm_jmp_spec ht
      split at ho
      · rename_i h
        cases ho
        exact lv_tableOut hx hb hd h ht (kk0 rfl la hl hlen)
      · rename_i h
        exact lv_tableIn hx hb hd (fun h' => h (Or.inl h')) (fun h' => h (Or.inr h')) ho ht (kk0 rfl la hl hlen)
    · cases hn
  | getfield x =>
    obtain rfl : len = 3 := by simpa [pm_ln] using hln
    simp only [pm_nx, Option.bind_eq_some_iff] at hn
    obtain ⟨⟨c, j⟩, hf, hn⟩ := hn
    split at hn
    · split at hn
      · rename_i hk
        simp only [Option.some.injEq, Prod.mk.injEq] at hn
        obtain ⟨rfl, rfl, rfl, rfl⟩ := hn
        exact pm_getW hx hb hok hts hown hK hR.1 hf hk hd (kk0 rfl la hl hlen)
      · cases hn
    · cases hn
  | putfield x =>
    obtain rfl : len = 3 := by simpa [pm_ln] using hln
    simp only [pm_nx, Option.bind_eq_some_iff] at hn
    obtain ⟨⟨c, j⟩, hf, hn⟩ := hn
    split at hn
    · split at hn
      · rename_i hk
        simp only [Option.some.injEq, Prod.mk.injEq] at hn
        obtain ⟨rfl, rfl, rfl, rfl⟩ := hn
        exact pm_putIW hx hb hok hts hown hK hbb hR hf hk.1 hk.2 hd (kk1 rfl rfl rfl)
      · cases hn
    · split at hn
      · rename_i hk
        simp only [Option.some.injEq, Prod.mk.injEq] at hn
        obtain ⟨rfl, rfl, rfl, rfl⟩ := hn
        exact pm_putRW hx hb hok hts hown (hname hk.2.2.1) hk.2.2.2 hK hbb hR hf hk.1 hk.2.1 hd (kk1 rfl rfl rfl)
      · cases hn
    · cases hn
  | iaload =>
    obtain rfl : len = 1 := by simpa [pm_ln] using hln
    simp only [pm_nx] at hn
    split at hn
    · split at hn
      · rename_i hk
        simp only [Option.some.injEq, Prod.mk.injEq] at hn
        obtain ⟨rfl, rfl, rfl, rfl⟩ := hn
        exact pm_ialdW hx hb hK hR.1 hk.1 hk.2 hd (kk0 rfl la hl hlen)
      · cases hn
    · split at hn
      · cases hn
      · rename_i hk
        simp only [Option.some.injEq, Prod.mk.injEq] at hn
        obtain ⟨rfl, rfl, rfl, rfl⟩ := hn
        obtain ⟨scr, h1, h2, h3, h4, h5⟩ := hR.2.1
        have hlt := Nat.not_le.mp fun q => hk (Or.inr q)
        exact W.iald hx hb h1 h2 h3 (by rw [h4]; exact hk) (h5 _ hlt) rfl rfl hd (kk0 rfl la hl hlen)
    · cases hn
  | iastore =>
    obtain rfl : len = 1 := by simpa [pm_ln] using hln
    simp only [pm_nx] at hn
    split at hn
    · split at hn
      · rename_i hk
        simp only [Option.some.injEq, Prod.mk.injEq] at hn
        obtain ⟨rfl, rfl, rfl, rfl⟩ := hn
        exact pm_iastW hx hb hK hbb hR hk.1 hk.2 hd (kk1 rfl rfl rfl)
      · cases hn
    · cases hn
  | aaload =>
    obtain rfl : len = 1 := by simpa [pm_ln] using hln
    simp only [pm_nx] at hn
    split at hn
    · split at hn
      · rename_i o rest hk
        simp only [Option.some.injEq, Prod.mk.injEq] at hn
        obtain ⟨rfl, rfl, rfl, rfl⟩ := hn
        exact pm_aaldW (c := ((pm_k M o).1 - 3) / 2) hx hb hok hK hR.1 (by omega) hk.2.2 hd (kk0 rfl la hl hlen)
      · cases hn
    · cases hn
  | aastore =>
    obtain rfl : len = 1 := by simpa [pm_ln] using hln
    simp only [pm_nx] at hn
    split at hn
    · split at hn
      · rename_i v i o rest hk
        simp only [Option.some.injEq, Prod.mk.injEq] at hn
        obtain ⟨rfl, rfl, rfl, rfl⟩ := hn
        exact pm_aastW (c := ((pm_k M o).1 - 3) / 2) hx hb hok hK hbb hR (by omega) hk.2.2.1 (by omega) hd (kk1 rfl rfl rfl)
      · cases hn
    · cases hn
  | arraylength =>
    obtain rfl : len = 1 := by simpa [pm_ln] using hln
    simp only [pm_nx] at hn
    split at hn
    · simp only [Option.some.injEq, Prod.mk.injEq] at hn
      obtain ⟨rfl, rfl, rfl, rfl⟩ := hn
      obtain ⟨scr, h1, h2, h3, h4, h5⟩ := hR.2.1
      exact W.alen hx hb h1 h2 (by rw [h4] <;> rfl) rfl rfl hd (kk0 rfl la hl hlen)
    · split at hn
      · rename_i hk
        simp only [Option.some.injEq, Prod.mk.injEq] at hn
        obtain ⟨rfl, rfl, rfl, rfl⟩ := hn
        exact pm_alenW hx hb hK hR.1 hk hd (kk0 rfl la hl hlen)
      · cases hn
    · cases hn
  | new x =>
    obtain rfl : len = 3 := by simpa [pm_ln] using hln
    simp only [pm_nx, Option.bind_eq_some_iff, Option.some.injEq, Prod.mk.injEq] at hn
    obtain ⟨c, hc, rfl, rfl, rfl, rfl⟩ := hn
    have e1 : (pm_new M (2 * c + 2) (pm_tl τ c)).1 - M.1 = 1 := by show M.1 + 1 - M.1 = 1; omega
    have e2 : (pm_new M (2 * c + 2) (pm_tl τ c)).2.1 - M.2.1 = pm_tl τ c := by show M.2.1 + _ - M.2.1 = _; omega
    rw [e1] at hcell kk
    rw [e2] at hslot kk
    exact pm_newW hx hb hok hts hown hK hbb hR hc hcell hslot hd fun H1 h1 => kk H1 locs la h1 hl hlen
  | newarray t =>
    obtain rfl : len = 2 := by simpa [pm_ln] using hln
    simp only [pm_nx] at hn
    split at hn
    · split at hn
      · rename_i n rest hk
        simp only [Option.some.injEq, Prod.mk.injEq] at hn
        obtain ⟨rfl, rfl, rfl, rfl⟩ := hn
        obtain ⟨rfl, h1, h2⟩ := hk
        have e1 : (pm_new M 1 n.toNatClampNeg).1 - M.1 = 1 := by show M.1 + 1 - M.1 = 1; omega
        have e2 : (pm_new M 1 n.toNatClampNeg).2.1 - M.2.1 = n.toNatClampNeg := by show M.2.1 + _ - M.2.1 = _; omega
        rw [e1] at hcell kk
        rw [e2] at hslot kk
        exact pm_newaW hx hb hok hts hK hbb hR h1 h2 hcell hslot hd fun H1 h1 => kk H1 locs la h1 hl hlen
      · cases hn
    · cases hn
  | anewarray x =>
    obtain rfl : len = 3 := by simpa [pm_ln] using hln
    simp only [pm_nx, Option.bind_eq_some_iff] at hn
    obtain ⟨c, hc, hn⟩ := hn
    split at hn
    · split at hn
      · rename_i n rest hk
        simp only [Option.some.injEq, Prod.mk.injEq] at hn
        obtain ⟨rfl, rfl, rfl, rfl⟩ := hn
        obtain ⟨h1, h2⟩ := hk
        have e1 : (pm_new M (2 * c + 3) n.toNatClampNeg).1 - M.1 = 1 := by show M.1 + 1 - M.1 = 1; omega
        have e2 : (pm_new M (2 * c + 3) n.toNatClampNeg).2.1 - M.2.1 = n.toNatClampNeg := by show M.2.1 + _ - M.2.1 = _; omega
        rw [e1] at hcell kk
        rw [e2] at hslot kk
        exact pm_anewW hx hb hok hts hown hK hbb hR hc h1 h2 hcell hslot hd fun H1 h1 => kk H1 locs la h1 hl hlen
      · cases hn
    · cases hn
  | invokespecial x =>
    obtain rfl : len = 3 := by simpa [pm_ln] using hln
    simp only [pm_nx, Option.bind_eq_some_iff] at hn
    obtain ⟨q, hq, hn⟩ := hn
    split at hn
    · split at hn
      · rename_i o rest hk
        simp only [Option.some.injEq, Prod.mk.injEq] at hn
        obtain ⟨rfl, rfl, rfl, rfl⟩ := hn
        obtain ⟨h1, h2, h3⟩ := (hok.2.2.2.2.2.2.2.2 _ _ _ hq).1 hk.1
        refine W.objInit hx hb hown (hts _ h1) (hts _ h2) (hts _ h3) rfl (hl.1.trans hml.symm) rfl hd (by rw [hRf]; exact hk.2.1) ?_ (kk0 rfl la hl hlen)
        rw [hRo]
        have := pm_cats base b rest
        show 2 * 0 + _ + 12 ≤ _
        omega
      · cases hn
    · cases hn
  | invokestatic x =>
    obtain rfl : len = 3 := by simpa [pm_ln] using hln
    simp only [pm_nx, Option.bind_eq_some_iff] at hn
    obtain ⟨q, hq, hn⟩ := hn
    have hC := hok.2.2.2.2.2.2.2.2 _ _ _ hq
    split at hn
    · split at hn
      · rename_i b0 a0 rest hk
        simp only [Option.some.injEq, Prod.mk.injEq] at hn
        obtain ⟨rfl, rfl, rfl, rfl⟩ := hn
        obtain ⟨h1, h2, h3, h4⟩ := hC.2.2.2.2.2.1 hk.1
        exact va_mmax hx hb (hml.trans hl.1.symm) hown (hts _ h1) (hts _ h2) (hts _ h3) (hts _ h4) (by rw [hRf]; exact hk.2.1) (by rw [hRo]; have := pm_cats base b rest; have := hk.2.2; omega) (by omega) (by omega) hd (kk0 rfl la hl hlen)
      · split at hn
        · rename_i b0 a0 rest _ hk
          simp only [Option.some.injEq, Prod.mk.injEq] at hn
          obtain ⟨rfl, rfl, rfl, rfl⟩ := hn
          obtain ⟨h1, h2, h3, h4⟩ := hC.2.2.2.2.2.2 hk.1
          exact va_mmin hx hb (hml.trans hl.1.symm) hown (hts _ h1) (hts _ h2) (hts _ h3) (hts _ h4) (by rw [hRf]; exact hk.2.1) (by rw [hRo]; have := pm_cats base b rest; have := hk.2.2; omega) (by omega) (by omega) hd (kk0 rfl la hl hlen)
        · cases hn
    · cases hn
  | _ => simp [pm_nx] at hn
end PMN
end
section
/-! calls: a contract out of a run of the pure machine; the whole run -/
theorem pm_nx_mono {τ : pm_T} {m : pm_M} {xl : Nat} {xs : Nat → Int32} {pc pc' : Nat} {ls ls' : pm_L} {st st' : List Value} {M M' : pm_H} {i : Instr} (h : pm_nx τ m xl xs pc ls st M i = some (pc', ls', st', M')) : M.1 ≤ M'.1 ∧ M.2.1 ≤ M'.2.1 := by
  have key : (M = M' ∨ (∃ k j v, pm_setI M k j v = M') ∨ (∃ k j v, pm_setR M k j v = M') ∨ ∃ k n, pm_new M k n = M') → M.1 ≤ M'.1 ∧ M.2.1 ≤ M'.2.1 := by
    rintro (rfl | ⟨k, j, v, rfl⟩ | ⟨k, j, v, rfl⟩ | ⟨k, n, rfl⟩)
    · exact ⟨Nat.le_refl _, Nat.le_refl _⟩
    · exact ⟨Nat.le_refl _, Nat.le_refl _⟩
    · exact ⟨Nat.le_refl _, Nat.le_refl _⟩
    · exact ⟨Nat.le_succ _, Nat.le_add_right _ _⟩
  apply key
  clear key
  unfold pm_nx at h
  split at h <;> (try simp only [Option.bind_eq_some_iff, Option.some.injEq, Prod.mk.injEq] at h) <;> first
    | (cases h; done)
    | exact Or.inl h.2.2.2
    | (obtain ⟨_, _, h⟩ := h; first
        | exact Or.inl h.2.2.2
        | exact Or.inr (Or.inr (Or.inr ⟨_, _, h.2.2.2⟩))
        | (repeat' split at h) <;> first
            | (cases h; done)
            | (simp only [Option.some.injEq, Prod.mk.injEq] at h; first
                | exact Or.inl h.2.2.2
                | exact Or.inr (Or.inl ⟨_, _, _, h.2.2.2⟩)
                | exact Or.inr (Or.inr (Or.inl ⟨_, _, _, h.2.2.2⟩))
                | exact Or.inr (Or.inr (Or.inr ⟨_, _, h.2.2.2⟩))))
    | ((repeat' split at h) <;> (try simp only [Option.bind_eq_some_iff, Option.some.injEq, Prod.mk.injEq] at h) <;> first
        | (cases h; done)
        | exact Or.inl h.2.2.2
        | exact Or.inr (Or.inl ⟨_, _, _, h.2.2.2⟩)
        | exact Or.inr (Or.inr (Or.inl ⟨_, _, _, h.2.2.2⟩))
        | exact Or.inr (Or.inr (Or.inr ⟨_, _, h.2.2.2⟩))
        | (obtain ⟨_, _, h⟩ := h; exact Or.inl h.2.2.2)
        | (obtain ⟨_, _, _, _, h⟩ := h; exact Or.inl h.2.2.2))
theorem pm_run_mono {τ : pm_T} {xl : Nat} {xs : Nat → Int32} (n : Nat) : ∀ {m : pm_M} {pc : Nat} {ls : pm_L} {st : List Value} {M : pm_H} {r : Option Value × pm_H}, pm_run τ xl xs n m pc ls st M = some r → M.1 ≤ r.2.1 ∧ M.2.1 ≤ r.2.2.1 := by
  induction n with
  | zero => intro m pc ls st M r h; simp [pm_run] at h
  | succ n ih =>
    intro m pc ls st M r h
    rw [pm_run] at h
    split at h
    · cases h
    · split at h
      · cases h
      · split at h
        · split at h
          · cases h
          · rename_i hr
            have h1 := ih hr
            have h2 := ih h
            exact ⟨Nat.le_trans h1.1 h2.1, Nat.le_trans h1.2 h2.2⟩
        · split at h
          · cases h; exact ⟨Nat.le_refl _, Nat.le_refl _⟩
          · split at h
            · cases h
            · rename_i hx
              have h1 := pm_nx_mono hx
              have h2 := ih h
              exact ⟨Nat.le_trans h1.1 h2.1, Nat.le_trans h1.2 h2.2⟩
section PMC
variable {τ : pm_T} {cl : List vw_C} {acs : List Nat} {Rn : Nat → String} {Ts : List Jvm.Cond} {xl : Nat} {xs : Nat → Int32} {l : Launch}
/-- runs of n steps are the real machine's -/
def pm_S (τ : pm_T) (cl : List vw_C) (acs : List Nat) (Rn : Nat → String) (Ts : List Jvm.Cond) (xl : Nat) (xs : Nat → Int32) (l : Launch) (n : Nat) : Prop :=
  ∀ {p : Program} {e : Env} {R : Room} {s : State} {mi : MethodId} {args : Array Value} {below : List Frame} {meth : Method} {c0 : Code} {H : Heap} {locs : List Loc} {cells slots : Nat} {Q : State → Prop} {la : Array Slot} {D : va_G} {cA : Nat → ClassId} {base b : Nat} {m : pm_M} {pc : Nat} {ls : pm_L} {st : List Value} {M Mf : pm_H} {r : Option Value},
    p.tables.exec = Jvm.exec → c0.code = pm_b m → (∀ w ∈ Ts, w.before args s = true) → s.vm.findClass (Rn (pm_n m)) = some mi.cls → ((pm_y m).name = "<init>" → meth.name = "<init>") → c0.maxLocals = pm_l m → R.frames = pm_f m → R.locals = pm_o m → pm_K cl acs D cA s → b < base →
    pm_run τ xl xs n m pc ls st M = some (r, Mf) → pm_Rl τ cl acs D cA base b xl xs s M H locs → lv_has la (pm_l m) (pm_as (pm_w m) base b ls) → ls.length = pm_l m → cells + (Mf.1 - M.1) ≤ R.cells → slots + (Mf.2.1 - M.2.1) ≤ R.slots →
    (∀ (H1 : Heap) (locs1 : List Loc) (la1 : Array Slot) (pc1 : Nat) (i : Instr) (st1 : List Value), pm_Rl τ cl acs D cA base b xl xs s Mf H1 locs1 → decode (pm_b m) pc1 = .ok (i, 1) → pm_rt m st1 i = some r → W p l e R s mi args below meth c0 H1 locs1 (cells + (Mf.1 - M.1)) (slots + (Mf.2.1 - M.2.1)) Q (F0 mi pc1 la1 (st1.map (pm_sh base b)))) →
    W p l e R s mi args below meth c0 H locs cells slots Q (F0 mi pc la (st.map (pm_sh base b)))
def pm_P (τ : pm_T) (cl : List vw_C) (acs : List Nat) (D : va_G) (cA : Nat → ClassId) (base b xl : Nat) (xs : Nat → Int32) (vs : List Value) (M : pm_H) : Array Value → State → Prop :=
  fun v U => v = (vs.map (pm_sh base b)).toArray ∧ pm_Pic τ cl acs D cA base M U.heap ∧ va_X b xl xs U U.heap ∧ pm_K cl acs D cA U
def pm_Q (τ : pm_T) (cl : List vw_C) (acs : List Nat) (D : va_G) (cA : Nat → ClassId) (base b : Nat) (r : Option Value) (Mf : pm_H) : Array Value → State → Outcome → State → Prop :=
  fun _ st oc t => oc = .returned (r.map (pm_sh base b)) ∧ pm_Pic τ cl acs D cA base Mf t.heap ∧ va_F (fun q => base ≤ q) st t
theorem pm_blind {D : va_G} {cA : Nat → ClassId} {base b : Nat} {vs : List Value} {M : pm_H} : FrameBlind (pm_P τ cl acs D cA base b xl xs vs M) :=
  fun _ U g mk h => ⟨h.1, h.2.1, va_X.moved (u := U) (U := U.calling g mk _) (Vm.Alike.refl U.vm) h.2.2.1, pm_K.moved (u := U) (U := U.calling g mk _) (Vm.Alike.refl U.vm) h.2.2.2⟩
theorem pm_goodIn (hok : pm_ok τ cl acs Rn Ts) {ws : List Jvm.Cond} (h : ∀ w ∈ ws, w ∈ Ts) : GoodIn Ts ws := fun w hw => ⟨h w hw, good_of_word (hok.1 w (h w hw))⟩
theorem pm_met {n : Nat} (hS : pm_S τ cl acs Rn Ts xl xs l n) (hok : pm_ok τ cl acs Rn Ts) {m : pm_M} (hm : pm_okM Rn Ts m) {vs : List Value} {M Mf : pm_H} {r : Option Value} (hvs : vs.length ≤ pm_l m) (hall : vs.all pm_c1 = true) (hrun : pm_run τ xl xs n m 0 (pm_en m vs) [] M = some (r, Mf)) {base b : Nat} (hbb : b < base) (D : va_G) (cA : Nat → ClassId) :
    Met l (pm_y m) (Jvm.Cond.code (pm_y m) (pm_b m) (pm_l m) (pm_r m) :: Ts) ({ frames := pm_f m, cells := Mf.1 - M.1, slots := Mf.2.1 - M.2.1, locals := pm_o m }) (pm_P τ cl acs D cA base b xl xs vs M) (pm_Q τ cl acs D cA base b r Mf) (Mf.1 - M.1) (Mf.2.1 - M.2.1) (fun q => base ≤ q) := by
  refine Met.ofW (cc := pm_b m) (maxL := pm_l m) (ret := pm_r m) hm.2.1 rfl ?_
  intro p e s mi args below meth c s₁ B hml hv
  obtain ⟨rfl, hP, hX, hK⟩ := hv
  have hts := atoms_spec (ws := Jvm.Cond.code (pm_y m) (pm_b m) (pm_l m) (pm_r m) :: Ts) B.pre
  have hown : s.vm.findClass (Rn (pm_n m)) = some mi.cls := by rw [hm.2.2]; exact findClass_of_methodNamed B.named
  have hl0 := lv_entry (vs.map (pm_sh base b)) (n := pm_l m) (by rw [pm_lg base b vs hall]; exact hvs)
  rw [lg_entry_eq]
  generalize (lg_sl (vs.map (pm_sh base b)) ++ List.replicate (pm_l m - (lg_sl (vs.map (pm_sh base b))).length) Slot.unset).toArray = la at hl0 ⊢
  have hl : lv_has la (pm_l m) (pm_as (pm_w m) base b (pm_en m vs)) := ⟨hl0.1, hl0.2.1, fun q hq => hl0.2.2 q (pm_as_entry (pm_w m) base b m vs hall q hq)⟩
  refine hS (st := []) (M := M) (Mf := Mf) (r := r) (cells := 0) (slots := 0) B.exec B.bytes (fun w hw => hts w (List.mem_cons_of_mem _ hw)) hown (fun h => ((name_of_methodNamed B.named B.method).1).trans h) hml rfl rfl hK hbb hrun ⟨hP, hX, va_S.rf⟩ hl (pm_en_len hvs) (by show 0 + _ ≤ _; rw [Nat.zero_add]; exact Nat.le_refl _) (by show 0 + _ ≤ _; rw [Nat.zero_add]; exact Nat.le_refl _) ?_
  intro H1 locs1 la1 pc1 i st1 hR1 hd1 hrt
  rw [Nat.zero_add, Nat.zero_add]
  have hlocks := B.notSynchronized
  have hr := B.returns
  unfold pm_rt at hrt
  split at hrt
  · split at hrt
    · split at hrt
      · rename_i v hret
        cases hrt
        rcases hret with h | ⟨h, h2⟩
        · exact W.iret (v := v) B.exec B.bytes (by rw [hr, h]) (fun t ht _ => ⟨rfl, by rw [ht]; exact hR1.1, hR1.2.2.F ht⟩) hR1.2.2.2.2 hd1 hlocks
        · exact W.zret (v := v) B.exec B.bytes (by rw [hr, h]) (by rcases h2 with rfl | rfl <;> decide) (fun t ht _ => ⟨rfl, by rw [ht]; exact hR1.1, hR1.2.2.F ht⟩) hR1.2.2.2.2 hd1 hlocks
      · cases hrt
    · cases hrt
  · split at hrt
    · split at hrt
      · rename_i h
        cases hrt
        exact W.vret B.exec B.bytes (by rw [hr, h]) (fun t ht _ => ⟨rfl, by rw [ht]; exact hR1.1, hR1.2.2.F ht⟩) hR1.2.2.2.2 hd1 hlocks
      · cases hrt
    · cases hrt
  · split at hrt
    · split at hrt
      · rename_i h
        cases hrt
        exact W.lret B.exec B.bytes (by rw [hr, h]) (fun t ht _ => ⟨rfl, by rw [ht]; exact hR1.1, hR1.2.2.F ht⟩) hR1.2.2.2.2 hd1 hlocks
      · cases hrt
    · cases hrt
  · cases hrt
/-- behind a call -/
theorem pm_behind {p : Program} {e : Env} {R : Room} {s : State} {mi : MethodId} {args : Array Value} {below : List Frame} {meth : Method} {c0 : Code} {H : Heap} {locs : List Loc} {cells slots mc ms : Nat} {Q : State → Prop} {la : Array Slot} {D : va_G} {cA : Nat → ClassId} {base b : Nat} {pc : Nat} {st0 rest : List Value} {M M1 : pm_H} {r : Option Value} {a : Array Value} (hbb : b < base) (hR : pm_Rl τ cl acs D cA base b xl xs s M H locs)
    (hr : va_Run p l e R s mi args below meth c0 H locs cells slots mc ms (F0 mi pc la st0) (rest.map (pm_sh base b)) (pm_Q τ cl acs D cA base b r M1 a) (fun q => base ≤ q))
    (kk : ∀ (H1 : Heap) (locs1 : List Loc), pm_Rl τ cl acs D cA base b xl xs s M1 H1 locs1 → W p l e R s mi args below meth c0 H1 locs1 (cells + mc) (slots + ms) Q (F0 mi (pc + 3) la ((r.toList ++ rest).map (pm_sh base b)))) : W p l e R s mi args below meth c0 H locs cells slots Q (F0 mi pc la st0) := by
  intro T hT X
  obtain ⟨v, st₀, t, T', L, h0, X', hL, e1, e2, ⟨hv, hP, hz, hk⟩, st⟩ := hr T hT X
  cases hv
  rw [h0] at hz hk
  have hsz : s.heap.size ≤ H.size := hR.2.2.1
  have hR1 : pm_Rl τ cl acs D cA base b xl xs s M1 T'.heap (locs ++ L) := by
    rw [e1]
    refine ⟨hP, pm_X_keep hR.2.1 (hk b (by rw [hR.1.1]; omega) (by omega)), Nat.le_trans hsz hz, fun q h1 h2 => (hk q (by omega) h2).trans (hR.2.2.2.1 q h1 h2), fun q hq => ?_⟩
    rcases List.mem_append.mp hq with h | h
    · exact hR.2.2.2.2 q h
    · exact hL q h
  obtain ⟨t2, a1, b1⟩ := kk T'.heap _ hR1 T' rfl X'
  refine ⟨t2, st t2 ?_, b1⟩
  have he : (r.toList ++ rest).map (pm_sh base b) = (r.map (pm_sh base b)).toList ++ rest.map (pm_sh base b) := by cases r <;> rfl
  rw [he] at a1
  exact a1
theorem pm_cut {na : Nat} {st rest : List Value} {v : Value} (h : st.drop na = v :: rest) : st = st.take na ++ v :: rest := by
  rw [← h, List.take_append_drop]
set_option maxHeartbeats 4000000 in
theorem pm_all (hok : pm_ok τ cl acs Rn Ts) (n : Nat) : pm_S τ cl acs Rn Ts xl xs l n := by
  induction n with
  | zero =>
    intro p e R s mi args below meth c0 H locs cells slots Q la D cA base b m pc ls st M Mf r hx hb hts hown hname hml hRf hRo hK hbb hrun
    simp [pm_run] at hrun
  | succ n ih =>
    intro p e R s mi args below meth c0 H locs cells slots Q la D cA base b m pc ls st M Mf r hx hb hts hown hname hml hRf hRo hK hbb hrun hR hl hlen hcell hslot hret
    rw [pm_run] at hrun
    cases hd : decode (pm_b m) pc with
    | error er => rw [hd] at hrun; cases hrun
    | ok q =>
      obtain ⟨i, len⟩ := q
      rw [hd] at hrun
      dsimp only at hrun
      split at hrun
      · cases hrun
      · rename_i hln0
        have hln : pm_ln i len = true := by
          cases h : pm_ln i len with
          | true => rfl
          | false => exact absurd h hln0
        cases hc : pm_cl τ m st M i with
        | some w =>
          obtain ⟨m', vs, rest⟩ := w
          rw [hc] at hrun
          dsimp only at hrun
          cases hr : pm_run τ xl xs n m' 0 (pm_en m' vs) [] M with
          | none => rw [hr] at hrun; cases hrun
          | some w =>
            obtain ⟨r', M1⟩ := w
            rw [hr] at hrun
            dsimp only at hrun
            have m1 := pm_run_mono n hr
            have m2 := pm_run_mono n hrun
            dsimp only at m1 m2
            have hgo : ∀ (H1 : Heap) (locs1 : List Loc), pm_Rl τ cl acs D cA base b xl xs s M1 H1 locs1 → W p l e R s mi args below meth c0 H1 locs1 (cells + (M1.1 - M.1)) (slots + (M1.2.1 - M.2.1)) Q (F0 mi (pc + 3) la ((r'.toList ++ rest).map (pm_sh base b))) := by
              intro H1 locs1 hR1
              refine ih hx hb hts hown hname hml hRf hRo hK hbb hrun hR1 hl hlen (by omega) (by omega) ?_
              intro H2 locs2 la2 pc2 i2 st2 h2 h3 h4
              have := hret H2 locs2 la2 pc2 i2 st2 h2 h3 h4
              rw [show cells + (M1.1 - M.1) + (Mf.1 - M1.1) = cells + (Mf.1 - M.1) by omega, show slots + (M1.2.1 - M.2.1) + (Mf.2.1 - M1.2.1) = slots + (Mf.2.1 - M.2.1) by omega]
              exact this
            have hcs : cells + (M1.1 - M.1) ≤ R.cells ∧ slots + (M1.2.1 - M.2.1) ≤ R.slots := ⟨by omega, by omega⟩
            unfold pm_cl at hc
            split at hc
            · rename_i x
              obtain rfl : len = 3 := by simpa [pm_ln] using hln
              simp only [Option.bind_eq_some_iff] at hc
              obtain ⟨⟨kd, m0, na⟩, hq, hc⟩ := hc
              dsimp only at hc
              split at hc
              · rename_i o rest0 hdrop
                split at hc
                · rename_i hcond
                  obtain ⟨rfl, hko, h1, h2, h3, h4, h5, h6⟩ := hcond
                  simp only [Option.some.injEq, Prod.mk.injEq] at hc
                  obtain ⟨rfl, rfl, rfl⟩ := hc
                  obtain ⟨-, hc1, hc2, -, -, -, -⟩ := hok.2.2.2.2.2.2.2.2 _ _ _ hq
                  obtain ⟨hm, hlk, hini, hdes⟩ := hc1 (by show 0 < 3; decide)
                  obtain ⟨hins, hsel⟩ := hc2 rfl
                  dsimp only at hm hlk hini hdes hins hsel
                  have hlt : (st.take na).length = na := by rw [List.length_take]; omega
                  have hM := pm_met ih hok hm (vs := .ref o :: (st.take na).reverse) (by rw [List.length_cons, List.length_reverse, hlt]; exact h2) (by rw [List.all_cons, List.all_reverse, h6]; rfl) hr hbb D cA
                  have hat := (hR.1.2.2 o).1 (pm_n m0) (pm_k M o).2 (by rw [← hko])
                  obtain ⟨⟨q, hqc, hql⟩, cell, q1, q2, q3, -⟩ := hat
                  have hRn := (hok.2.1 _ _ hqc).1
                  have hcls := (hK.1.1 _ _ hqc).2
                  have hcall := va_runV (As := ((st.take na).reverse).map (pm_sh base b)) (rest := rest0.map (pm_sh base b)) (b := base + o) (C := (pm_y m0).cls) (index := x) (g := F0 mi pc la (st.map (pm_sh base b))) (cells := cells) (slots := slots) (locs := locs) (H := H) (below := below) (meth := meth) (e := e) (R := R) ⟨hx, hb, hml, hown, hts⟩ hM
                    (cwV na hts (pm_goodIn hok (fun w hw => by
                      simp only [wsV, List.mem_append, List.mem_cons, List.not_mem_nil, or_false] at hw
                      rcases hw with (rfl | rfl | rfl | rfl) | rfl | hw
                      · exact hlk
                      · exact hins
                      · exact hsel
                      · exact hini
                      · exact hm.1
                      · exact hw)) rfl rfl rfl ⟨rfl, hdes.1, hdes.2.1, hdes.2.2⟩ ⟨by rw [hRf]; exact h4, by rw [hRo]; exact h5⟩)
                    ⟨pm_blind, ⟨cell, q1, by rw [q3]; rfl, by rw [q2, ← hm.2.2, hRn]; exact hcls.1⟩, fun U hU hW => ⟨by rw [List.map_cons]; rfl, by rw [hU]; exact hR.1, va_X.moved hW.alike (by rw [hU]; exact hR.2.1), pm_K.moved hW.alike hK⟩⟩
                    rfl (by rw [List.length_map, List.length_reverse, hlt]) hl.1 (by
                      show st.map (pm_sh base b) = _
                      rw [List.map_reverse, List.reverse_reverse]
                      conv => lhs; rw [pm_cut hdrop]
                      rw [List.map_append, List.map_cons]
                      rfl) (lv_room (Nat.le_trans (pm_cats _ _ _) h3)) hd hcs
                  exact pm_behind hbb hR hcall hgo
                · cases hc
              · cases hc
            · rename_i x
              obtain rfl : len = 3 := by simpa [pm_ln] using hln
              simp only [Option.bind_eq_some_iff] at hc
              obtain ⟨⟨kd, m0, na⟩, hq, hc⟩ := hc
              dsimp only at hc
              split at hc
              · rename_i hcond
                obtain ⟨rfl, h1, h2, h3, h4, h5, h6⟩ := hcond
                simp only [Option.some.injEq, Prod.mk.injEq] at hc
                obtain ⟨rfl, rfl, rfl⟩ := hc
                obtain ⟨-, hc1, -, hc2, -, -, -⟩ := hok.2.2.2.2.2.2.2.2 _ _ _ hq
                obtain ⟨hm, hlk, hini, hdes⟩ := hc1 (by show 1 < 3; decide)
                have hstt := hc2 rfl
                dsimp only at hm hlk hini hdes hstt
                have hlt : (st.take na).length = na := by rw [List.length_take]; omega
                have hM := pm_met ih hok hm (vs := (st.take na).reverse) (by rw [List.length_reverse, hlt]; exact h2) (by rw [List.all_reverse]; exact h6) hr hbb D cA
                have hcall := va_runS (As := ((st.take na).reverse).map (pm_sh base b)) (rest := (st.drop na).map (pm_sh base b)) (index := x) (g := F0 mi pc la (st.map (pm_sh base b))) (cells := cells) (slots := slots) (locs := locs) (H := H) (below := below) (meth := meth) (e := e) (R := R) ⟨hx, hb, hml, hown, hts⟩ hM
                  ⟨callB_of na hts (pm_goodIn hok (fun w hw => by
                    rcases List.mem_cons.mp hw with rfl | hw
                    · exact hm.1
                    · exact hw)) rfl rfl rfl (hts _ hini) (hts _ hlk) ⟨hdes.1, hdes.2.1, hdes.2.2⟩ ⟨by rw [hRf]; exact h4, by rw [hRo]; exact h5⟩, hts _ hstt⟩
                  ⟨pm_blind, fun U hU hW => ⟨rfl, by rw [hU]; exact hR.1, va_X.moved hW.alike (by rw [hU]; exact hR.2.1), pm_K.moved hW.alike hK⟩⟩
                  rfl (by rw [List.length_map, List.length_reverse, hlt]) hl.1 (by
                    show st.map (pm_sh base b) = _
                    rw [List.map_reverse, List.reverse_reverse, ← List.map_append, List.take_append_drop]) (lv_room (Nat.le_trans (pm_cats _ _ _) h3)) hd hcs
                exact pm_behind hbb hR hcall hgo
              · cases hc
            · rename_i x
              obtain rfl : len = 3 := by simpa [pm_ln] using hln
              simp only [Option.bind_eq_some_iff] at hc
              obtain ⟨⟨kd, m0, na⟩, hq, hc⟩ := hc
              dsimp only at hc
              split at hc
              · rename_i o rest0 hdrop
                split at hc
                · rename_i hcond
                  obtain ⟨rfl, h1, h2, h3, h4, h5, h6⟩ := hcond
                  simp only [Option.some.injEq, Prod.mk.injEq] at hc
                  obtain ⟨rfl, rfl, rfl⟩ := hc
                  obtain ⟨-, hc1, -, -, hc2, -, -⟩ := hok.2.2.2.2.2.2.2.2 _ _ _ hq
                  obtain ⟨hm, hlk, hini, hdes⟩ := hc1 (by show 2 < 3; decide)
                  obtain ⟨hnm, hins, hrn⟩ := hc2 rfl
                  dsimp only at hm hlk hini hdes hnm hins hrn
                  have hlt : (st.take na).length = na := by rw [List.length_take]; omega
                  have hM := pm_met ih hok hm (vs := .ref o :: (st.take na).reverse) (by rw [List.length_cons, List.length_reverse, hlt]; exact h2) (by rw [List.all_cons, List.all_reverse, h6]; rfl) hr hbb D cA
                  have hcall := va_runI (As := ((st.take na).reverse).map (pm_sh base b)) (rest := rest0.map (pm_sh base b)) (b := base + o) (index := x) (g := F0 mi pc la (st.map (pm_sh base b))) (cells := cells) (slots := slots) (locs := locs) (H := H) (below := below) (meth := meth) (e := e) (R := R) ⟨hx, hb, hml, hown, hts⟩ hM
                    ⟨callB_of na hts (pm_goodIn hok (fun w hw => by
                      rcases List.mem_cons.mp hw with rfl | hw
                      · exact hm.1
                      · exact hw)) (by rw [hrn]) rfl rfl (hts _ hini) (hts _ hlk) ⟨hdes.1, hdes.2.1, hdes.2.2⟩ ⟨by rw [hRf]; exact h4, by rw [hRo]; exact h5⟩, hnm, hts _ hins⟩
                    ⟨pm_blind, fun U hU hW => ⟨by rw [List.map_cons]; rfl, by rw [hU]; exact hR.1, va_X.moved hW.alike (by rw [hU]; exact hR.2.1), pm_K.moved hW.alike hK⟩⟩
                    rfl (by rw [List.length_map, List.length_reverse, hlt]) hl.1 (by
                      show st.map (pm_sh base b) = _
                      rw [List.map_reverse, List.reverse_reverse]
                      conv => lhs; rw [pm_cut hdrop]
                      rw [List.map_append, List.map_cons]
                      rfl) (lv_room (Nat.le_trans (pm_cats _ _ _) h3)) hd hcs
                  exact pm_behind hbb hR hcall hgo
                · cases hc
              · cases hc
            · cases hc
        | none =>
          rw [hc] at hrun
          dsimp only at hrun
          cases ht : pm_rt m st i with
          | some r' =>
            rw [ht] at hrun
            cases hrun
            have hl1 : len = 1 := by
              unfold pm_rt at ht
              split at ht
              · simpa [pm_ln] using hln
              · simpa [pm_ln] using hln
              · simpa [pm_ln] using hln
              · cases ht
            subst hl1
            have := hret H locs la pc i st hR hd ht
            rwa [Nat.sub_self, Nat.sub_self, Nat.add_zero, Nat.add_zero] at this
          | none =>
            rw [ht] at hrun
            dsimp only at hrun
            cases hn : pm_nx τ m xl xs pc ls st M i with
            | none => rw [hn] at hrun; cases hrun
            | some w =>
              obtain ⟨pc', ls', st', M1⟩ := w
              rw [hn] at hrun
              dsimp only at hrun
              have m1 := pm_nx_mono hn
              have m2 := pm_run_mono n hrun
              dsimp only at m1 m2
              refine pm_nxW hx hb hok hts hown hname hml hRf hRo hK hbb hd hln hn hR hl hlen (by omega) (by omega) fun H1 locs1 la1 hR1 hl1 hlen1 => ?_
              refine ih hx hb hts hown hname hml hRf hRo hK hbb hrun hR1 hl1 hlen1 (by omega) (by omega) ?_
              intro H2 locs2 la2 pc2 i2 st2 h2 h3 h4
              have := hret H2 locs2 la2 pc2 i2 st2 h2 h3 h4
              rw [show cells + (M1.1 - M.1) + (Mf.1 - M1.1) = cells + (Mf.1 - M.1) by omega, show slots + (M1.2.1 - M.2.1) + (Mf.2.1 - M1.2.1) = slots + (Mf.2.1 - M.2.1) by omega]
              exact this
end PMC
end
