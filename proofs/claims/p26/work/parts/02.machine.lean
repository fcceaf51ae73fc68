/-! A PURE MACHINE: bytecode run over a flat memory whose cells are numbered from 0; what it answers, the real machine answers. -/
abbrev pm_M : Type := MethodName × Nat × ByteArray × Nat × Option FieldType × Nat × Nat × List Nat
def pm_y (m : pm_M) : MethodName := m.1
def pm_n (m : pm_M) : Nat := m.2.1
def pm_b (m : pm_M) : ByteArray := m.2.2.1
def pm_l (m : pm_M) : Nat := m.2.2.2.1
def pm_r (m : pm_M) : Option FieldType := m.2.2.2.2.1
def pm_f (m : pm_M) : Nat := m.2.2.2.2.2.1
def pm_o (m : pm_M) : Nat := m.2.2.2.2.2.2.1
/-- the variables that hold longs -/
def pm_w (m : pm_M) : List Nat := m.2.2.2.2.2.2.2
/-- a value of one word -/
def pm_c1 (v : Value) : Bool := match v with
  | .long _ => false
  | _ => true
/-- a memory: its cells, its slots, each cell's kind (0 nothing, 1 ints, 2c+2 an object of number c, 2c+3 an array of those) and length, references, numbers -/
abbrev pm_H : Type := Nat × Nat × (Nat → Nat × Nat) × (Nat → Nat → Option Nat) × (Nat → Nat → Int32)
abbrev pm_L : Type := List (Option Value)
/-- tables: fields; calls (0 by object, 1 static, 2 a constructor, 3 the object's own, 4 and 5 the greater and the lesser of two ints); constants; new; new arrays; a field's sort (0 int, 1 boolean, 2 a final reference); how many fields -/
abbrev pm_T : Type := (Nat → Nat → Option (Nat × Nat)) × (Nat → Nat → Option (Nat × pm_M × Nat)) × (Nat → Nat → Option Int32) × (Nat → Nat → Option Nat) × (Nat → Nat → Option Nat) × (Nat → Nat → Nat) × (Nat → Nat) × (Nat → Nat → Option Int64)
def pm_tf (τ : pm_T) : Nat → Nat → Option (Nat × Nat) := τ.1
def pm_tc (τ : pm_T) : Nat → Nat → Option (Nat × pm_M × Nat) := τ.2.1
def pm_tk (τ : pm_T) : Nat → Nat → Option Int32 := τ.2.2.1
def pm_tn (τ : pm_T) : Nat → Nat → Option Nat := τ.2.2.2.1
def pm_ta (τ : pm_T) : Nat → Nat → Option Nat := τ.2.2.2.2.1
def pm_ts (τ : pm_T) : Nat → Nat → Nat := τ.2.2.2.2.2.1
def pm_tl (τ : pm_T) : Nat → Nat := τ.2.2.2.2.2.2.1
def pm_tq (τ : pm_T) : Nat → Nat → Option Int64 := τ.2.2.2.2.2.2.2
def pm_u2 {α : Type} (f : Nat → Nat → α) (k j : Nat) (v : α) : Nat → Nat → α := fun a b => if a = k ∧ b = j then v else f a b
def pm_k (M : pm_H) (k : Nat) : Nat × Nat := M.2.2.1 k
def pm_rs (M : pm_H) : Nat → Nat → Option Nat := M.2.2.2.1
def pm_is (M : pm_H) : Nat → Nat → Int32 := M.2.2.2.2
def pm_setI (M : pm_H) (k j : Nat) (v : Int32) : pm_H := (M.1, M.2.1, M.2.2.1, M.2.2.2.1, pm_u2 M.2.2.2.2 k j v)
def pm_setR (M : pm_H) (k j : Nat) (o : Option Nat) : pm_H := (M.1, M.2.1, M.2.2.1, pm_u2 M.2.2.2.1 k j o, M.2.2.2.2)
def pm_new (M : pm_H) (kind len : Nat) : pm_H := (M.1 + 1, M.2.1 + len, fun k => if k = M.1 then (kind, len) else M.2.2.1 k, fun k j => if k = M.1 then none else M.2.2.2.1 k j, fun k j => if k = M.1 then 0 else M.2.2.2.2 k j)
def pm_rv (r : Option Nat) : Value := match r with
  | none => .null
  | some o => .ref o
def pm_cmp (c : Jvm.ClassFile.Cond) (x y : Int32) : Bool := match c with
  | .eq => decide (x = y)
  | .ne => decide (¬ x = y)
  | .lt => decide (x < y)
  | .ge => decide (y ≤ x)
  | .gt => decide (y < x)
  | .le => decide (x ≤ y)
/-- the length that an instruction has -/
def pm_ln (i : Instr) (len : Nat) : Bool := match i with
  | .iconst _ | .iload_n _ | .aload_n _ | .istore_n _ | .astore_n _ | .iadd | .isub | .imul | .idiv | .irem | .iand | .ior | .ishl | .ishr | .iushr | .dup | .dup2 | .pop | .iaload | .iastore | .aaload | .aastore | .arraylength | .ireturn | .return_ | .ixor | .i2l | .ladd | .lmul | .lcmp | .lconst _ | .lload_n _ | .lstore_n _ | .lreturn => len == 1
  | .bipush _ | .ldc _ | .iload _ | .aload _ | .istore _ | .astore _ | .newarray _ | .lload _ | .lstore _ => len == 2
  | .sipush _ | .ldc_w _ | .ldc2_w _ | .iinc _ _ | .goto _ | .ifCond _ _ | .if_icmp _ _ | .getfield _ | .putfield _ | .new _ | .anewarray _ | .invokevirtual _ | .invokestatic _ | .invokespecial _ => len == 3
  | .tableswitch _ _ _ _ => true
  | _ => false
def pm_jmp (pc : Nat) (off : Int) : Option Nat := if 0 ≤ (pc : Int) + off then some ((pc : Int) + off).toNat else none
def pm_ldi (ls : pm_L) (k : Nat) : Option Int32 := match ls[k]? with
  | some (some (.int x)) => some x
  | _ => none
def pm_lda (ls : pm_L) (k : Nat) : Option Value := match ls[k]? with
  | some (some (.ref a)) => some (.ref a)
  | some (some (.double a)) => some (.double a)
  | _ => none
def pm_nv (o : Option (Option Value)) : Bool := match o with
  | some (some (.long _)) => false
  | _ => true
def pm_nl (w : List Nat) (ls : pm_L) (k : Nat) : Bool := w.all (fun j => j + 1 != k || pm_nv ls[j]?)
def pm_ldl (w : List Nat) (ls : pm_L) (k : Nat) : Option Int64 := match ls[k]? with
  | some (some (.long x)) => if w.contains k = true then some x else none
  | _ => none
def pm_stl (w : List Nat) (ls : pm_L) (k : Nat) (st : List Value) : Option (pm_L × List Value) := match st with
  | .long x :: rest => if k + 1 < ls.length ∧ pm_nl w ls k = true then some ((ls.set k (some (.long x))).set (k + 1) none, rest) else none
  | _ => none
def pm_binL (f : Int64 → Int64 → Int64) (st : List Value) : Option (List Value) := match st with
  | .long y :: .long x :: rest => some (.long (f x y) :: rest)
  | _ => none
def pm_sta (w : List Nat) (ls : pm_L) (k : Nat) (st : List Value) : Option (pm_L × List Value) := match st with
  | .ref a :: rest => if k < ls.length ∧ pm_nl w ls k = true then some (ls.set k (some (.ref a)), rest) else none
  | _ => none
def pm_sti (w : List Nat) (ls : pm_L) (k : Nat) (st : List Value) : Option (pm_L × List Value) := match st with
  | .int x :: rest => if k < ls.length ∧ pm_nl w ls k = true then some (ls.set k (some (.int x)), rest) else none
  | _ => none
def pm_bin (f : Int32 → Int32 → Int32) (st : List Value) : Option (List Value) := match st with
  | .int y :: .int x :: rest => some (.int (f x y) :: rest)
  | _ => none
/-- one instruction that is no call and no return -/
def pm_nx (τ : pm_T) (m : pm_M) (xl : Nat) (xs : Nat → Int32) (pc : Nat) (ls : pm_L) (st : List Value) (M : pm_H) (i : Instr) : Option (Nat × pm_L × List Value × pm_H) :=
  match i with
  | .iconst n => some (pc + 1, ls, .int (Int32.ofInt n) :: st, M)
  | .bipush n => some (pc + 2, ls, .int (Int8.ofInt n).toInt32 :: st, M)
  | .sipush n => some (pc + 3, ls, .int (Int16.ofInt n).toInt32 :: st, M)
  | .ldc x => (pm_tk τ (pm_n m) x).bind fun v => some (pc + 2, ls, .int v :: st, M)
  | .ldc_w x => (pm_tk τ (pm_n m) x).bind fun v => some (pc + 3, ls, .int v :: st, M)
  | .iload_n k => (pm_ldi ls k.val).bind fun x => some (pc + 1, ls, .int x :: st, M)
  | .iload k => (pm_ldi ls k).bind fun x => some (pc + 2, ls, .int x :: st, M)
  | .aload_n k => (pm_lda ls k.val).bind fun v => some (pc + 1, ls, v :: st, M)
  | .aload k => (pm_lda ls k).bind fun v => some (pc + 2, ls, v :: st, M)
  | .istore_n k => (pm_sti (pm_w m) ls k.val st).bind fun q => some (pc + 1, q.1, q.2, M)
  | .istore k => (pm_sti (pm_w m) ls k st).bind fun q => some (pc + 2, q.1, q.2, M)
  | .astore_n k => (pm_sta (pm_w m) ls k.val st).bind fun q => some (pc + 1, q.1, q.2, M)
  | .astore k => (pm_sta (pm_w m) ls k st).bind fun q => some (pc + 2, q.1, q.2, M)
  | .iinc k n => (pm_ldi ls k).bind fun x => if k < ls.length ∧ pm_nl (pm_w m) ls k = true then some (pc + 3, ls.set k (some (.int (x + Int32.ofInt n))), st, M) else none
  | .iadd => (pm_bin (fun x y => x + y) st).bind fun q => some (pc + 1, ls, q, M)
  | .isub => (pm_bin (fun x y => x - y) st).bind fun q => some (pc + 1, ls, q, M)
  | .imul => (pm_bin (fun x y => x * y) st).bind fun q => some (pc + 1, ls, q, M)
  | .iand => (pm_bin (fun x y => x &&& y) st).bind fun q => some (pc + 1, ls, q, M)
  | .ior => (pm_bin (fun x y => x ||| y) st).bind fun q => some (pc + 1, ls, q, M)
  | .ixor => (pm_bin (fun x y => x ^^^ y) st).bind fun q => some (pc + 1, ls, q, M)
  | .i2l => match st with
    | .int x :: rest => some (pc + 1, ls, .long x.toInt64 :: rest, M)
    | _ => none
  | .ladd => (pm_binL (fun x y => x + y) st).bind fun q => some (pc + 1, ls, q, M)
  | .lmul => (pm_binL (fun x y => x * y) st).bind fun q => some (pc + 1, ls, q, M)
  | .lcmp => match st with
    | .long y :: .long x :: rest => some (pc + 1, ls, .int (lg_cmp x y) :: rest, M)
    | _ => none
  | .lconst n => some (pc + 1, ls, .long (Int64.ofNat n.val) :: st, M)
  | .ldc2_w x => (pm_tq τ (pm_n m) x).bind fun v => some (pc + 3, ls, .long v :: st, M)
  | .lload_n k => (pm_ldl (pm_w m) ls k.val).bind fun x => some (pc + 1, ls, .long x :: st, M)
  | .lload k => (pm_ldl (pm_w m) ls k).bind fun x => some (pc + 2, ls, .long x :: st, M)
  | .lstore_n k => (pm_stl (pm_w m) ls k.val st).bind fun q => some (pc + 1, q.1, q.2, M)
  | .lstore k => (pm_stl (pm_w m) ls k st).bind fun q => some (pc + 2, q.1, q.2, M)
  | .ishl => (pm_bin (fun x y => x <<< (y &&& 31)) st).bind fun q => some (pc + 1, ls, q, M)
  | .ishr => (pm_bin (fun x y => x >>> (y &&& 31)) st).bind fun q => some (pc + 1, ls, q, M)
  | .iushr => (pm_bin (fun x y => (x.toUInt32 >>> (y.toUInt32 &&& Int32.toUInt32 31)).toInt32) st).bind fun q => some (pc + 1, ls, q, M)
  | .idiv => match st with
    | .int y :: .int x :: rest => if y = 0 then none else some (pc + 1, ls, .int (x / y) :: rest, M)
    | _ => none
  | .irem => match st with
    | .int y :: .int x :: rest => if y = 0 then none else some (pc + 1, ls, .int (x - x / y * y) :: rest, M)
    | _ => none
  | .dup => match st with
    | v :: rest => if pm_c1 v = true then some (pc + 1, ls, v :: v :: rest, M) else none
    | _ => none
  | .dup2 => match st with
    | v :: w :: rest => if pm_c1 v = true ∧ pm_c1 w = true then some (pc + 1, ls, v :: w :: v :: w :: rest, M) else none
    | _ => none
  | .pop => match st with
    | v :: rest => if pm_c1 v = true then some (pc + 1, ls, rest, M) else none
    | _ => none
  | .goto off => (pm_jmp pc off).bind fun t => some (t, ls, st, M)
  | .ifCond c off => match st with
    | .int x :: rest => (pm_jmp pc off).bind fun t => some (if pm_cmp c x 0 = true then t else pc + 3, ls, rest, M)
    | _ => none
  | .if_icmp c off => match st with
    | .int y :: .int x :: rest => (pm_jmp pc off).bind fun t => some (if pm_cmp c x y = true then t else pc + 3, ls, rest, M)
    | _ => none
  | .tableswitch dflt lo hi offs => match st with
    | .int x :: rest => (if x.toInt < lo ∨ hi < x.toInt then some dflt else offs[(x.toInt - lo).toNat]?).bind fun off => (pm_jmp pc off).bind fun t => some (t, ls, rest, M)
    | _ => none
  | .getfield x => (pm_tf τ (pm_n m) x).bind fun f => match st with
    | .ref o :: rest => if (pm_k M o).1 = 2 * f.1 + 2 then some (pc + 3, ls, (if pm_ts τ f.1 f.2 = 2 then pm_rv (pm_rs M o f.2) else .int (pm_is M o f.2)) :: rest, M) else none
    | _ => none
  | .putfield x => (pm_tf τ (pm_n m) x).bind fun f => match st with
    | .int v :: .ref o :: rest => if (pm_k M o).1 = 2 * f.1 + 2 ∧ (pm_ts τ f.1 f.2 = 0 ∨ (pm_ts τ f.1 f.2 = 1 ∧ (v = 0 ∨ v = 1))) then some (pc + 3, ls, rest, pm_setI M o f.2 v) else none
    | .ref v :: .ref o :: rest => if (pm_k M o).1 = 2 * f.1 + 2 ∧ pm_ts τ f.1 f.2 = 2 ∧ (pm_y m).name = "<init>" ∧ pm_n m = f.1 then some (pc + 3, ls, rest, pm_setR M o f.2 (some v)) else none
    | _ => none
  | .iaload => match st with
    | .int i :: .ref o :: rest => if (pm_k M o).1 = 1 ∧ ¬ (i < 0 ∨ (pm_k M o).2 ≤ i.toNatClampNeg) then some (pc + 1, ls, .int (pm_is M o i.toNatClampNeg) :: rest, M) else none
    | .int i :: .double _ :: rest => if i < 0 ∨ xl ≤ i.toNatClampNeg then none else some (pc + 1, ls, .int (xs i.toNatClampNeg) :: rest, M)
    | _ => none
  | .iastore => match st with
    | .int v :: .int i :: .ref o :: rest => if (pm_k M o).1 = 1 ∧ ¬ (i < 0 ∨ (pm_k M o).2 ≤ i.toNatClampNeg) then some (pc + 1, ls, rest, pm_setI M o i.toNatClampNeg v) else none
    | _ => none
  | .aaload => match st with
    | .int i :: .ref o :: rest => if 3 ≤ (pm_k M o).1 ∧ (pm_k M o).1 % 2 = 1 ∧ ¬ (i < 0 ∨ (pm_k M o).2 ≤ i.toNatClampNeg) then some (pc + 1, ls, pm_rv (pm_rs M o i.toNatClampNeg) :: rest, M) else none
    | _ => none
  | .aastore => match st with
    | .ref v :: .int i :: .ref o :: rest => if 3 ≤ (pm_k M o).1 ∧ (pm_k M o).1 % 2 = 1 ∧ ¬ (i < 0 ∨ (pm_k M o).2 ≤ i.toNatClampNeg) ∧ (pm_k M v).1 + 1 = (pm_k M o).1 then some (pc + 1, ls, rest, pm_setR M o i.toNatClampNeg (some v)) else none
    | _ => none
  | .arraylength => match st with
    | .double _ :: rest => some (pc + 1, ls, .int (Int32.ofNat xl) :: rest, M)
    | .ref o :: rest => if (pm_k M o).1 = 1 then some (pc + 1, ls, .int (Int32.ofNat (pm_k M o).2) :: rest, M) else none
    | _ => none
  | .new x => (pm_tn τ (pm_n m) x).bind fun c => some (pc + 3, ls, .ref M.1 :: st, pm_new M (2 * c + 2) (pm_tl τ c))
  | .newarray t => match st with
    | .int n :: rest => if t = .int ∧ ¬ n < 0 ∧ n.toNatClampNeg ≤ 100000 then some (pc + 2, ls, .ref M.1 :: rest, pm_new M 1 n.toNatClampNeg) else none
    | _ => none
  | .anewarray x => (pm_ta τ (pm_n m) x).bind fun c => match st with
    | .int n :: rest => if ¬ n < 0 ∧ n.toNatClampNeg ≤ 100000 then some (pc + 3, ls, .ref M.1 :: rest, pm_new M (2 * c + 3) n.toNatClampNeg) else none
    | _ => none
  | .invokespecial x => (pm_tc τ (pm_n m) x).bind fun q => match st with
    | .ref _ :: rest => if q.1 = 3 ∧ 1 ≤ pm_f m ∧ 2 * rest.length + 12 ≤ pm_o m then some (pc + 3, ls, rest, M) else none
    | _ => none
  | .invokestatic x => (pm_tc τ (pm_n m) x).bind fun q => match st with
    | .int b :: .int a :: rest => if q.1 = 4 ∧ 1 ≤ pm_f m ∧ 2 * rest.length + 13 ≤ pm_o m then some (pc + 3, ls, .int (if a < b then b else a) :: rest, M) else if q.1 = 5 ∧ 1 ≤ pm_f m ∧ 2 * rest.length + 13 ≤ pm_o m then some (pc + 3, ls, .int (if b < a then b else a) :: rest, M) else none
    | _ => none
  | _ => none
/-- a call: who, with what, over what -/
def pm_cl (τ : pm_T) (m : pm_M) (st : List Value) (M : pm_H) (i : Instr) : Option (pm_M × List Value × List Value) :=
  match i with
  | .invokevirtual x => (pm_tc τ (pm_n m) x).bind fun q => match st.drop q.2.2 with
    | .ref o :: rest => if q.1 = 0 ∧ (pm_k M o).1 = 2 * pm_n q.2.1 + 2 ∧ q.2.2 ≤ st.length ∧ q.2.2 + 1 ≤ pm_l q.2.1 ∧ 2 * rest.length ≤ 8 ∧ pm_f q.2.1 + 1 ≤ pm_f m ∧ 8 + (pm_l q.2.1 + 11) + pm_o q.2.1 ≤ pm_o m ∧ (st.take q.2.2).all pm_c1 = true then some (q.2.1, .ref o :: (st.take q.2.2).reverse, rest) else none
    | _ => none
  | .invokestatic x => (pm_tc τ (pm_n m) x).bind fun q => if q.1 = 1 ∧ q.2.2 ≤ st.length ∧ q.2.2 ≤ pm_l q.2.1 ∧ 2 * (st.drop q.2.2).length ≤ 8 ∧ pm_f q.2.1 + 1 ≤ pm_f m ∧ 8 + (pm_l q.2.1 + 11) + pm_o q.2.1 ≤ pm_o m ∧ (st.take q.2.2).all pm_c1 = true then some (q.2.1, (st.take q.2.2).reverse, st.drop q.2.2) else none
  | .invokespecial x => (pm_tc τ (pm_n m) x).bind fun q => match st.drop q.2.2 with
    | .ref o :: rest => if q.1 = 2 ∧ q.2.2 ≤ st.length ∧ q.2.2 + 1 ≤ pm_l q.2.1 ∧ 2 * rest.length ≤ 8 ∧ pm_f q.2.1 + 1 ≤ pm_f m ∧ 8 + (pm_l q.2.1 + 11) + pm_o q.2.1 ≤ pm_o m ∧ (st.take q.2.2).all pm_c1 = true then some (q.2.1, .ref o :: (st.take q.2.2).reverse, rest) else none
    | _ => none
  | _ => none
/-- a return -/
def pm_rt (m : pm_M) (st : List Value) (i : Instr) : Option (Option Value) :=
  match i with
  | .ireturn => match st with
    | [.int v] => if pm_r m = some .int ∨ (pm_r m = some .boolean ∧ (v = 0 ∨ v = 1)) then some (some (.int v)) else none
    | _ => none
  | .return_ => match st with
    | [] => if pm_r m = none then some none else none
    | _ => none
  | .lreturn => match st with
    | [.long v] => if pm_r m = some .long then some (some (.long v)) else none
    | _ => none
  | _ => none
def pm_en (m : pm_M) (vs : List Value) : pm_L := vs.map some ++ List.replicate (pm_l m - vs.length) none
def pm_run (τ : pm_T) (xl : Nat) (xs : Nat → Int32) : Nat → pm_M → Nat → pm_L → List Value → pm_H → Option (Option Value × pm_H)
  | 0, _, _, _, _, _ => none
  | n + 1, m, pc, ls, st, M => match decode (pm_b m) pc with
    | .error _ => none
    | .ok (i, len) => if pm_ln i len = false then none else match pm_cl τ m st M i with
      | some (m', vs, rest) => match pm_run τ xl xs n m' 0 (pm_en m' vs) [] M with
        | none => none
        | some (r, M') => pm_run τ xl xs n m (pc + 3) ls (r.toList ++ rest) M'
      | none => match pm_rt m st i with
        | some r => some (r, M)
        | none => match pm_nx τ m xl xs pc ls st M i with
          | none => none
          | some (pc', ls', st', M') => pm_run τ xl xs n m pc' ls' st' M'
