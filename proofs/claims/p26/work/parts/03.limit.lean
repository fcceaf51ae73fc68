/-! WHAT THE PURE MACHINE ANSWERS IN THE END, whatever the number of its steps -/
theorem pm_run_more (τ : pm_T) (xl : Nat) (xs : Nat → Int32) (n : Nat) : ∀ (m : pm_M) (pc : Nat) (ls : pm_L) (st : List Value) (M : pm_H) (r : Option Value × pm_H), pm_run τ xl xs n m pc ls st M = some r → pm_run τ xl xs (n + 1) m pc ls st M = some r := by
  induction n with
  | zero => intro m pc ls st M r h; simp [pm_run] at h
  | succ n ih =>
    intro m pc ls st M r h
    rw [pm_run] at h
    rw [pm_run]
    cases hd : decode (pm_b m) pc with
    | error e => rw [hd] at h; exact h
    | ok q =>
      obtain ⟨i, len⟩ := q
      rw [hd] at h
      dsimp only at h ⊢
      split at h
      · cases h
      · rename_i hl
        rw [if_neg hl]
        cases hc : pm_cl τ m st M i with
        | some q =>
          obtain ⟨m', vs, rest⟩ := q
          rw [hc] at h
          dsimp only at h ⊢
          cases hr : pm_run τ xl xs n m' 0 (pm_en m' vs) [] M with
          | none => rw [hr] at h; cases h
          | some w =>
            obtain ⟨r', M'⟩ := w
            rw [hr] at h
            rw [ih _ _ _ _ _ _ hr]
            exact ih _ _ _ _ _ _ h
        | none =>
          rw [hc] at h
          dsimp only at h ⊢
          cases ht : pm_rt m st i with
          | some r' => rw [ht] at h; exact h
          | none =>
            rw [ht] at h
            dsimp only at h ⊢
            cases hx : pm_nx τ m xl xs pc ls st M i with
            | none => rw [hx] at h; cases h
            | some w =>
              obtain ⟨pc', ls', st', M'⟩ := w
              rw [hx] at h
              exact ih _ _ _ _ _ _ h
theorem pm_run_le {τ : pm_T} {xl : Nat} {xs : Nat → Int32} {n k : Nat} (hk : n ≤ k) {m : pm_M} {pc : Nat} {ls : pm_L} {st : List Value} {M : pm_H} {r : Option Value × pm_H} (h : pm_run τ xl xs n m pc ls st M = some r) : pm_run τ xl xs k m pc ls st M = some r := by
  induction hk with
  | refl => exact h
  | step _ ih => exact pm_run_more _ _ _ _ _ _ _ _ _ _ ih
noncomputable def pm_ev (τ : pm_T) (xl : Nat) (xs : Nat → Int32) (m : pm_M) (pc : Nat) (ls : pm_L) (st : List Value) (M : pm_H) : Option (Option Value × pm_H) :=
  @dite _ (∃ r n, pm_run τ xl xs n m pc ls st M = some r) (Classical.propDecidable _) (fun h => some (Classical.choose h)) (fun _ => none)
section PMEV
variable {τ : pm_T} {xl : Nat} {xs : Nat → Int32} {m : pm_M} {pc : Nat} {ls : pm_L} {st : List Value} {M : pm_H}
theorem pm_ev_iff {r : Option Value × pm_H} : pm_ev τ xl xs m pc ls st M = some r ↔ ∃ n, pm_run τ xl xs n m pc ls st M = some r := by
  unfold pm_ev
  constructor
  · intro h
    split at h
    · rename_i hq
      have := Classical.choose_spec hq
      rw [Option.some.inj h] at this
      exact this
    · cases h
  · rintro ⟨n, h⟩
    have hq : ∃ r n, pm_run τ xl xs n m pc ls st M = some r := ⟨r, n, h⟩
    rw [dif_pos hq]
    obtain ⟨n', h'⟩ := Classical.choose_spec hq
    have h1 := pm_run_le (Nat.le_max_left n n') h
    have h2 := pm_run_le (Nat.le_max_right n n') h'
    rw [h1] at h2
    rw [← Option.some.inj h2]
theorem pm_ev_ext {a b : Option (Option Value × pm_H)} (h : ∀ r, a = some r ↔ b = some r) : a = b := by
  cases a with
  | none =>
    cases b with
    | none => rfl
    | some y => exact (h y).mpr rfl
  | some x => exact ((h x).mp rfl).symm
variable {i : Instr} {len : Nat}
theorem pm_ev_nx {pc' : Nat} {ls' : pm_L} {st' : List Value} {M' : pm_H} (hd : decode (pm_b m) pc = .ok (i, len)) (hl : pm_ln i len = true) (hc : pm_cl τ m st M i = none) (ht : pm_rt m st i = none) (hx : pm_nx τ m xl xs pc ls st M i = some (pc', ls', st', M')) : pm_ev τ xl xs m pc ls st M = pm_ev τ xl xs m pc' ls' st' M' := by
  have key : ∀ n, pm_run τ xl xs (n + 1) m pc ls st M = pm_run τ xl xs n m pc' ls' st' M' := by
    intro n
    rw [pm_run, hd]
    dsimp only
    rw [if_neg (by rw [hl]; decide), hc]
    dsimp only
    rw [ht]
    dsimp only
    rw [hx]
  refine pm_ev_ext fun r => ?_
  rw [pm_ev_iff, pm_ev_iff]
  constructor
  · rintro ⟨n, h⟩
    cases n with
    | zero => simp [pm_run] at h
    | succ n => exact ⟨n, (key n).symm.trans h⟩
  · rintro ⟨n, h⟩
    exact ⟨n + 1, (key n).trans h⟩
theorem pm_ev_rt {r : Option Value} (hd : decode (pm_b m) pc = .ok (i, len)) (hl : pm_ln i len = true) (hc : pm_cl τ m st M i = none) (ht : pm_rt m st i = some r) : pm_ev τ xl xs m pc ls st M = some (r, M) := by
  rw [pm_ev_iff]
  refine ⟨1, ?_⟩
  rw [pm_run, hd]
  dsimp only
  rw [if_neg (by rw [hl]; decide), hc]
  dsimp only
  rw [ht]
theorem pm_ev_cl {m' : pm_M} {vs rest : List Value} (hd : decode (pm_b m) pc = .ok (i, len)) (hl : pm_ln i len = true) (hc : pm_cl τ m st M i = some (m', vs, rest)) : pm_ev τ xl xs m pc ls st M = (pm_ev τ xl xs m' 0 (pm_en m' vs) [] M).bind fun q => pm_ev τ xl xs m (pc + 3) ls (q.1.toList ++ rest) q.2 := by
  have key : ∀ n, pm_run τ xl xs (n + 1) m pc ls st M = (pm_run τ xl xs n m' 0 (pm_en m' vs) [] M).bind fun q => pm_run τ xl xs n m (pc + 3) ls (q.1.toList ++ rest) q.2 := by
    intro n
    rw [pm_run, hd]
    dsimp only
    rw [if_neg (by rw [hl]; decide), hc]
    dsimp only
    cases pm_run τ xl xs n m' 0 (pm_en m' vs) [] M <;> rfl
  refine pm_ev_ext fun r => ?_
  rw [pm_ev_iff, Option.bind_eq_some_iff]
  constructor
  · rintro ⟨n, h⟩
    cases n with
    | zero => simp [pm_run] at h
    | succ n =>
      rw [key n, Option.bind_eq_some_iff] at h
      obtain ⟨q, h1, h2⟩ := h
      exact ⟨q, pm_ev_iff.mpr ⟨n, h1⟩, pm_ev_iff.mpr ⟨n, h2⟩⟩
  · rintro ⟨q, h1, h2⟩
    obtain ⟨n1, h1⟩ := pm_ev_iff.mp h1
    obtain ⟨n2, h2⟩ := pm_ev_iff.mp h2
    refine ⟨max n1 n2 + 1, ?_⟩
    rw [key, Option.bind_eq_some_iff]
    exact ⟨q, pm_run_le (Nat.le_max_left _ _) h1, pm_run_le (Nat.le_max_right _ _) h2⟩
/-! instruction by instruction -/
theorem ev_iconst {n : Int} {v : Int32} (hv : Int32.ofInt n = v) (hd : decode (pm_b m) pc = .ok (.iconst n, 1)) : pm_ev τ xl xs m pc ls st M = pm_ev τ xl xs m (pc + 1) ls (.int v :: st) M := by subst hv; exact pm_ev_nx hd rfl rfl rfl rfl
theorem ev_bipush {n : Int} {v : Int32} (hv : (Int8.ofInt n).toInt32 = v) (hd : decode (pm_b m) pc = .ok (.bipush n, 2)) : pm_ev τ xl xs m pc ls st M = pm_ev τ xl xs m (pc + 2) ls (.int v :: st) M := by subst hv; exact pm_ev_nx hd rfl rfl rfl rfl
theorem ev_sipush {n : Int} {v : Int32} (hv : (Int16.ofInt n).toInt32 = v) (hd : decode (pm_b m) pc = .ok (.sipush n, 3)) : pm_ev τ xl xs m pc ls st M = pm_ev τ xl xs m (pc + 3) ls (.int v :: st) M := by subst hv; exact pm_ev_nx hd rfl rfl rfl rfl
theorem ev_ldc {x : Nat} {v : Int32} (hk : pm_tk τ (pm_n m) x = some v) (hd : decode (pm_b m) pc = .ok (.ldc x, 2)) : pm_ev τ xl xs m pc ls st M = pm_ev τ xl xs m (pc + 2) ls (.int v :: st) M := pm_ev_nx hd rfl rfl rfl (by simp only [pm_nx, hk, Option.bind_some])
theorem ev_ldc_w {x : Nat} {v : Int32} (hk : pm_tk τ (pm_n m) x = some v) (hd : decode (pm_b m) pc = .ok (.ldc_w x, 3)) : pm_ev τ xl xs m pc ls st M = pm_ev τ xl xs m (pc + 3) ls (.int v :: st) M := pm_ev_nx hd rfl rfl rfl (by simp only [pm_nx, hk, Option.bind_some])
theorem ev_iload_n {k : Fin 4} {x : Int32} (hk : pm_ldi ls k.val = some x) (hd : decode (pm_b m) pc = .ok (.iload_n k, 1)) : pm_ev τ xl xs m pc ls st M = pm_ev τ xl xs m (pc + 1) ls (.int x :: st) M := pm_ev_nx hd rfl rfl rfl (by simp only [pm_nx, hk, Option.bind_some])
theorem ev_iload {k : Nat} {x : Int32} (hk : pm_ldi ls k = some x) (hd : decode (pm_b m) pc = .ok (.iload k, 2)) : pm_ev τ xl xs m pc ls st M = pm_ev τ xl xs m (pc + 2) ls (.int x :: st) M := pm_ev_nx hd rfl rfl rfl (by simp only [pm_nx, hk, Option.bind_some])
theorem ev_aload_n {k : Fin 4} {v : Value} (hk : pm_lda ls k.val = some v) (hd : decode (pm_b m) pc = .ok (.aload_n k, 1)) : pm_ev τ xl xs m pc ls st M = pm_ev τ xl xs m (pc + 1) ls (v :: st) M := pm_ev_nx hd rfl rfl rfl (by simp only [pm_nx, hk, Option.bind_some])
theorem ev_aload {k : Nat} {v : Value} (hk : pm_lda ls k = some v) (hd : decode (pm_b m) pc = .ok (.aload k, 2)) : pm_ev τ xl xs m pc ls st M = pm_ev τ xl xs m (pc + 2) ls (v :: st) M := pm_ev_nx hd rfl rfl rfl (by simp only [pm_nx, hk, Option.bind_some])
theorem ev_istore_n {k : Fin 4} {x : Int32} {ls' : pm_L} (hk : pm_sti (pm_w m) ls k.val (.int x :: st) = some (ls', st)) (hd : decode (pm_b m) pc = .ok (.istore_n k, 1)) : pm_ev τ xl xs m pc ls (.int x :: st) M = pm_ev τ xl xs m (pc + 1) ls' st M := pm_ev_nx hd rfl rfl rfl (by simp only [pm_nx, hk, Option.bind_some])
theorem ev_istore {k : Nat} {x : Int32} {ls' : pm_L} (hk : pm_sti (pm_w m) ls k (.int x :: st) = some (ls', st)) (hd : decode (pm_b m) pc = .ok (.istore k, 2)) : pm_ev τ xl xs m pc ls (.int x :: st) M = pm_ev τ xl xs m (pc + 2) ls' st M := pm_ev_nx hd rfl rfl rfl (by simp only [pm_nx, hk, Option.bind_some])
theorem ev_astore_n {k : Fin 4} {x : Nat} {ls' : pm_L} (hk : pm_sta (pm_w m) ls k.val (.ref x :: st) = some (ls', st)) (hd : decode (pm_b m) pc = .ok (.astore_n k, 1)) : pm_ev τ xl xs m pc ls (.ref x :: st) M = pm_ev τ xl xs m (pc + 1) ls' st M := pm_ev_nx hd rfl rfl rfl (by simp only [pm_nx, hk, Option.bind_some])
theorem ev_astore {k : Nat} {x : Nat} {ls' : pm_L} (hk : pm_sta (pm_w m) ls k (.ref x :: st) = some (ls', st)) (hd : decode (pm_b m) pc = .ok (.astore k, 2)) : pm_ev τ xl xs m pc ls (.ref x :: st) M = pm_ev τ xl xs m (pc + 2) ls' st M := pm_ev_nx hd rfl rfl rfl (by simp only [pm_nx, hk, Option.bind_some])
theorem ev_iinc {k : Nat} {n : Int} {x v : Int32} {ls' : pm_L} (hv : Int32.ofInt n = v) (hk : pm_ldi ls k = some x) (hs : (if k < ls.length ∧ pm_nl (pm_w m) ls k = true then some (ls.set k (some (.int (x + v)))) else none) = some ls') (hd : decode (pm_b m) pc = .ok (.iinc k n, 3)) : pm_ev τ xl xs m pc ls st M = pm_ev τ xl xs m (pc + 3) ls' st M := pm_ev_nx hd rfl rfl rfl (by
  subst hv
  simp only [pm_nx, hk, Option.bind_some]
  split at hs
  · rename_i h; rw [if_pos h]; cases hs; rfl
  · cases hs)
theorem ev_iadd {x y : Int32} (hd : decode (pm_b m) pc = .ok (.iadd, 1)) : pm_ev τ xl xs m pc ls (.int y :: .int x :: st) M = pm_ev τ xl xs m (pc + 1) ls (.int (x + y) :: st) M := pm_ev_nx hd rfl rfl rfl rfl
theorem ev_isub {x y : Int32} (hd : decode (pm_b m) pc = .ok (.isub, 1)) : pm_ev τ xl xs m pc ls (.int y :: .int x :: st) M = pm_ev τ xl xs m (pc + 1) ls (.int (x - y) :: st) M := pm_ev_nx hd rfl rfl rfl rfl
theorem ev_imul {x y : Int32} (hd : decode (pm_b m) pc = .ok (.imul, 1)) : pm_ev τ xl xs m pc ls (.int y :: .int x :: st) M = pm_ev τ xl xs m (pc + 1) ls (.int (x * y) :: st) M := pm_ev_nx hd rfl rfl rfl rfl
theorem ev_iand {x y : Int32} (hd : decode (pm_b m) pc = .ok (.iand, 1)) : pm_ev τ xl xs m pc ls (.int y :: .int x :: st) M = pm_ev τ xl xs m (pc + 1) ls (.int (x &&& y) :: st) M := pm_ev_nx hd rfl rfl rfl rfl
theorem ev_ior {x y : Int32} (hd : decode (pm_b m) pc = .ok (.ior, 1)) : pm_ev τ xl xs m pc ls (.int y :: .int x :: st) M = pm_ev τ xl xs m (pc + 1) ls (.int (x ||| y) :: st) M := pm_ev_nx hd rfl rfl rfl rfl
theorem ev_ishl {x y : Int32} (hd : decode (pm_b m) pc = .ok (.ishl, 1)) : pm_ev τ xl xs m pc ls (.int y :: .int x :: st) M = pm_ev τ xl xs m (pc + 1) ls (.int (x <<< (y &&& 31)) :: st) M := pm_ev_nx hd rfl rfl rfl rfl
theorem ev_ishr {x y : Int32} (hd : decode (pm_b m) pc = .ok (.ishr, 1)) : pm_ev τ xl xs m pc ls (.int y :: .int x :: st) M = pm_ev τ xl xs m (pc + 1) ls (.int (x >>> (y &&& 31)) :: st) M := pm_ev_nx hd rfl rfl rfl rfl
theorem ev_iushr {x y : Int32} (hd : decode (pm_b m) pc = .ok (.iushr, 1)) : pm_ev τ xl xs m pc ls (.int y :: .int x :: st) M = pm_ev τ xl xs m (pc + 1) ls (.int (x.toUInt32 >>> (y.toUInt32 &&& Int32.toUInt32 31)).toInt32 :: st) M := pm_ev_nx hd rfl rfl rfl rfl
theorem ev_idiv {x y : Int32} (hy : ¬ y = 0) (hd : decode (pm_b m) pc = .ok (.idiv, 1)) : pm_ev τ xl xs m pc ls (.int y :: .int x :: st) M = pm_ev τ xl xs m (pc + 1) ls (.int (x / y) :: st) M := pm_ev_nx hd rfl rfl rfl (by simp only [pm_nx, if_neg hy])
theorem ev_irem {x y : Int32} (hy : ¬ y = 0) (hd : decode (pm_b m) pc = .ok (.irem, 1)) : pm_ev τ xl xs m pc ls (.int y :: .int x :: st) M = pm_ev τ xl xs m (pc + 1) ls (.int (x - x / y * y) :: st) M := pm_ev_nx hd rfl rfl rfl (by simp only [pm_nx, if_neg hy])
theorem ev_dup {v : Value} (hv : pm_c1 v = true) (hd : decode (pm_b m) pc = .ok (.dup, 1)) : pm_ev τ xl xs m pc ls (v :: st) M = pm_ev τ xl xs m (pc + 1) ls (v :: v :: st) M := pm_ev_nx hd rfl rfl rfl (by simp only [pm_nx]; rw [if_pos hv])
theorem ev_dup2 {v w : Value} (hv : pm_c1 v = true ∧ pm_c1 w = true) (hd : decode (pm_b m) pc = .ok (.dup2, 1)) : pm_ev τ xl xs m pc ls (v :: w :: st) M = pm_ev τ xl xs m (pc + 1) ls (v :: w :: v :: w :: st) M := pm_ev_nx hd rfl rfl rfl (by simp only [pm_nx]; rw [if_pos hv])
theorem ev_pop {v : Value} (hv : pm_c1 v = true) (hd : decode (pm_b m) pc = .ok (.pop, 1)) : pm_ev τ xl xs m pc ls (v :: st) M = pm_ev τ xl xs m (pc + 1) ls st M := pm_ev_nx hd rfl rfl rfl (by simp only [pm_nx]; rw [if_pos hv])
theorem ev_goto {off : Int} {t : Nat} (ht : pm_jmp pc off = some t) (hd : decode (pm_b m) pc = .ok (.goto off, 3)) : pm_ev τ xl xs m pc ls st M = pm_ev τ xl xs m t ls st M := pm_ev_nx hd rfl rfl rfl (by simp only [pm_nx, ht, Option.bind_some])
theorem ev_if {c : Jvm.ClassFile.Cond} {off : Int} {t : Nat} {x : Int32} (ht : pm_jmp pc off = some t) (hd : decode (pm_b m) pc = .ok (.ifCond c off, 3)) : pm_ev τ xl xs m pc ls (.int x :: st) M = if pm_cmp c x 0 = true then pm_ev τ xl xs m t ls st M else pm_ev τ xl xs m (pc + 3) ls st M := by
  have h := pm_ev_nx (τ := τ) (xl := xl) (xs := xs) (ls := ls) (st := .int x :: st) (M := M) hd rfl rfl rfl (by simp only [pm_nx, ht, Option.bind_some]; rfl)
  rw [h]
  split <;> rfl
theorem ev_icmp {c : Jvm.ClassFile.Cond} {off : Int} {t : Nat} {x y : Int32} (ht : pm_jmp pc off = some t) (hd : decode (pm_b m) pc = .ok (.if_icmp c off, 3)) : pm_ev τ xl xs m pc ls (.int y :: .int x :: st) M = if pm_cmp c x y = true then pm_ev τ xl xs m t ls st M else pm_ev τ xl xs m (pc + 3) ls st M := by
  have h := pm_ev_nx (τ := τ) (xl := xl) (xs := xs) (ls := ls) (st := .int y :: .int x :: st) (M := M) hd rfl rfl rfl (by simp only [pm_nx, ht, Option.bind_some]; rfl)
  rw [h]
  split <;> rfl
theorem ev_switch {dflt lo hi off : Int} {offs : Array Int} {len t : Nat} {x : Int32} (ho : (if x.toInt < lo ∨ hi < x.toInt then some dflt else offs[(x.toInt - lo).toNat]?) = some off) (ht : pm_jmp pc off = some t) (hd : decode (pm_b m) pc = .ok (.tableswitch dflt lo hi offs, len)) : pm_ev τ xl xs m pc ls (.int x :: st) M = pm_ev τ xl xs m t ls st M := pm_ev_nx hd rfl rfl rfl (by simp only [pm_nx, ho, ht, Option.bind_some])
theorem ev_getI {x o c j : Nat} (hf : pm_tf τ (pm_n m) x = some (c, j)) (hs : ¬ pm_ts τ c j = 2) (hk : (pm_k M o).1 = 2 * c + 2) (hd : decode (pm_b m) pc = .ok (.getfield x, 3)) : pm_ev τ xl xs m pc ls (.ref o :: st) M = pm_ev τ xl xs m (pc + 3) ls (.int (pm_is M o j) :: st) M := pm_ev_nx hd rfl rfl rfl (by simp only [pm_nx, hf, Option.bind_some, if_pos hk, if_neg hs])
theorem ev_getR {x o c j : Nat} (hf : pm_tf τ (pm_n m) x = some (c, j)) (hs : pm_ts τ c j = 2) (hk : (pm_k M o).1 = 2 * c + 2) (hd : decode (pm_b m) pc = .ok (.getfield x, 3)) : pm_ev τ xl xs m pc ls (.ref o :: st) M = pm_ev τ xl xs m (pc + 3) ls (pm_rv (pm_rs M o j) :: st) M := pm_ev_nx hd rfl rfl rfl (by simp only [pm_nx, hf, Option.bind_some, if_pos hk, if_pos hs])
theorem ev_putI {x o c j : Nat} {v : Int32} (hf : pm_tf τ (pm_n m) x = some (c, j)) (hs : pm_ts τ c j = 0) (hk : (pm_k M o).1 = 2 * c + 2) (hd : decode (pm_b m) pc = .ok (.putfield x, 3)) : pm_ev τ xl xs m pc ls (.int v :: .ref o :: st) M = pm_ev τ xl xs m (pc + 3) ls st (pm_setI M o j v) := pm_ev_nx hd rfl rfl rfl (by
  simp only [pm_nx, hf, Option.bind_some]
  rw [if_pos ⟨hk, Or.inl hs⟩])
theorem ev_putZ {x o c j : Nat} {v : Int32} (hf : pm_tf τ (pm_n m) x = some (c, j)) (hs : pm_ts τ c j = 1) (hk : (pm_k M o).1 = 2 * c + 2) (hv : v = 0 ∨ v = 1) (hd : decode (pm_b m) pc = .ok (.putfield x, 3)) : pm_ev τ xl xs m pc ls (.int v :: .ref o :: st) M = pm_ev τ xl xs m (pc + 3) ls st (pm_setI M o j v) := pm_ev_nx hd rfl rfl rfl (by
  simp only [pm_nx, hf, Option.bind_some]
  rw [if_pos ⟨hk, Or.inr ⟨hs, hv⟩⟩])
theorem ev_putR {x o c j v : Nat} (hf : pm_tf τ (pm_n m) x = some (c, j)) (hs : pm_ts τ c j = 2) (hi : (pm_y m).name = "<init>") (hn : pm_n m = c) (hk : (pm_k M o).1 = 2 * c + 2) (hd : decode (pm_b m) pc = .ok (.putfield x, 3)) : pm_ev τ xl xs m pc ls (.ref v :: .ref o :: st) M = pm_ev τ xl xs m (pc + 3) ls st (pm_setR M o j (some v)) := pm_ev_nx hd rfl rfl rfl (by
  simp only [pm_nx, hf, Option.bind_some]
  rw [if_pos ⟨hk, hs, hi, hn⟩])
theorem ev_iald {i : Int32} {o : Nat} (hk : (pm_k M o).1 = 1) (hi : ¬ (i < 0 ∨ (pm_k M o).2 ≤ i.toNatClampNeg)) (hd : decode (pm_b m) pc = .ok (.iaload, 1)) : pm_ev τ xl xs m pc ls (.int i :: .ref o :: st) M = pm_ev τ xl xs m (pc + 1) ls (.int (pm_is M o i.toNatClampNeg) :: st) M := pm_ev_nx hd rfl rfl rfl (by
  simp only [pm_nx]
  rw [if_pos ⟨hk, hi⟩])
theorem ev_sld {i : Int32} {b : UInt64} (hi : ¬ (i < 0 ∨ xl ≤ i.toNatClampNeg)) (hd : decode (pm_b m) pc = .ok (.iaload, 1)) : pm_ev τ xl xs m pc ls (.int i :: .double b :: st) M = pm_ev τ xl xs m (pc + 1) ls (.int (xs i.toNatClampNeg) :: st) M := pm_ev_nx hd rfl rfl rfl (by
  simp only [pm_nx]
  rw [if_neg hi])
theorem ev_iast {i v : Int32} {o : Nat} (hk : (pm_k M o).1 = 1) (hi : ¬ (i < 0 ∨ (pm_k M o).2 ≤ i.toNatClampNeg)) (hd : decode (pm_b m) pc = .ok (.iastore, 1)) : pm_ev τ xl xs m pc ls (.int v :: .int i :: .ref o :: st) M = pm_ev τ xl xs m (pc + 1) ls st (pm_setI M o i.toNatClampNeg v) := pm_ev_nx hd rfl rfl rfl (by
  simp only [pm_nx]
  rw [if_pos ⟨hk, hi⟩])
theorem ev_aald {i : Int32} {o c : Nat} (hk : (pm_k M o).1 = 2 * c + 3) (hi : ¬ (i < 0 ∨ (pm_k M o).2 ≤ i.toNatClampNeg)) (hd : decode (pm_b m) pc = .ok (.aaload, 1)) : pm_ev τ xl xs m pc ls (.int i :: .ref o :: st) M = pm_ev τ xl xs m (pc + 1) ls (pm_rv (pm_rs M o i.toNatClampNeg) :: st) M := pm_ev_nx hd rfl rfl rfl (by
  simp only [pm_nx]
  rw [if_pos ⟨by omega, by omega, hi⟩])
theorem ev_aast {i : Int32} {o c v : Nat} (hk : (pm_k M o).1 = 2 * c + 3) (hi : ¬ (i < 0 ∨ (pm_k M o).2 ≤ i.toNatClampNeg)) (hv : (pm_k M v).1 = 2 * c + 2) (hd : decode (pm_b m) pc = .ok (.aastore, 1)) : pm_ev τ xl xs m pc ls (.ref v :: .int i :: .ref o :: st) M = pm_ev τ xl xs m (pc + 1) ls st (pm_setR M o i.toNatClampNeg (some v)) := pm_ev_nx hd rfl rfl rfl (by
  simp only [pm_nx]
  rw [if_pos ⟨by omega, by omega, hi, by omega⟩])
theorem ev_slen {b : UInt64} (hd : decode (pm_b m) pc = .ok (.arraylength, 1)) : pm_ev τ xl xs m pc ls (.double b :: st) M = pm_ev τ xl xs m (pc + 1) ls (.int (Int32.ofNat xl) :: st) M := pm_ev_nx hd rfl rfl rfl rfl
theorem ev_new {x c : Nat} (hc : pm_tn τ (pm_n m) x = some c) (hd : decode (pm_b m) pc = .ok (.new x, 3)) : pm_ev τ xl xs m pc ls st M = pm_ev τ xl xs m (pc + 3) ls (.ref M.1 :: st) (pm_new M (2 * c + 2) (pm_tl τ c)) := pm_ev_nx hd rfl rfl rfl (by simp only [pm_nx, hc, Option.bind_some])
theorem ev_newa {n : Int32} (hn : ¬ n < 0 ∧ n.toNatClampNeg ≤ 100000) (hd : decode (pm_b m) pc = .ok (.newarray .int, 2)) : pm_ev τ xl xs m pc ls (.int n :: st) M = pm_ev τ xl xs m (pc + 2) ls (.ref M.1 :: st) (pm_new M 1 n.toNatClampNeg) := pm_ev_nx hd rfl rfl rfl (by
  simp only [pm_nx]
  rw [if_pos ⟨trivial, hn⟩])
theorem ev_anew {x c : Nat} {n : Int32} (hc : pm_ta τ (pm_n m) x = some c) (hn : ¬ n < 0 ∧ n.toNatClampNeg ≤ 100000) (hd : decode (pm_b m) pc = .ok (.anewarray x, 3)) : pm_ev τ xl xs m pc ls (.int n :: st) M = pm_ev τ xl xs m (pc + 3) ls (.ref M.1 :: st) (pm_new M (2 * c + 3) n.toNatClampNeg) := pm_ev_nx hd rfl rfl rfl (by
  simp only [pm_nx, hc, Option.bind_some]
  rw [if_pos hn])
theorem ev_iret {v : Int32} (hr : pm_r m = some .int) (hd : decode (pm_b m) pc = .ok (.ireturn, 1)) : pm_ev τ xl xs m pc ls [.int v] M = some (some (.int v), M) := pm_ev_rt hd rfl rfl (by simp only [pm_rt]; rw [if_pos (Or.inl hr)])
theorem ev_zret {v : Int32} (hr : pm_r m = some .boolean) (hv : v = 0 ∨ v = 1) (hd : decode (pm_b m) pc = .ok (.ireturn, 1)) : pm_ev τ xl xs m pc ls [.int v] M = some (some (.int v), M) := pm_ev_rt hd rfl rfl (by simp only [pm_rt]; rw [if_pos (Or.inr ⟨hr, hv⟩)])
theorem ev_ret (hr : pm_r m = none) (hd : decode (pm_b m) pc = .ok (.return_, 1)) : pm_ev τ xl xs m pc ls [] M = some (none, M) := pm_ev_rt hd rfl rfl (by simp only [pm_rt]; rw [if_pos hr])
theorem ev_ixor {x y : Int32} (hd : decode (pm_b m) pc = .ok (.ixor, 1)) : pm_ev τ xl xs m pc ls (.int y :: .int x :: st) M = pm_ev τ xl xs m (pc + 1) ls (.int (x ^^^ y) :: st) M := pm_ev_nx hd rfl rfl rfl rfl
theorem ev_i2l {x : Int32} (hd : decode (pm_b m) pc = .ok (.i2l, 1)) : pm_ev τ xl xs m pc ls (.int x :: st) M = pm_ev τ xl xs m (pc + 1) ls (.long x.toInt64 :: st) M := pm_ev_nx hd rfl rfl rfl rfl
theorem ev_ladd {x y : Int64} (hd : decode (pm_b m) pc = .ok (.ladd, 1)) : pm_ev τ xl xs m pc ls (.long y :: .long x :: st) M = pm_ev τ xl xs m (pc + 1) ls (.long (x + y) :: st) M := pm_ev_nx hd rfl rfl rfl rfl
theorem ev_lmul {x y : Int64} (hd : decode (pm_b m) pc = .ok (.lmul, 1)) : pm_ev τ xl xs m pc ls (.long y :: .long x :: st) M = pm_ev τ xl xs m (pc + 1) ls (.long (x * y) :: st) M := pm_ev_nx hd rfl rfl rfl rfl
theorem ev_lcmp {x y : Int64} (hd : decode (pm_b m) pc = .ok (.lcmp, 1)) : pm_ev τ xl xs m pc ls (.long y :: .long x :: st) M = pm_ev τ xl xs m (pc + 1) ls (.int (lg_cmp x y) :: st) M := pm_ev_nx hd rfl rfl rfl rfl
theorem ev_lconst {n : Fin 2} {v : Int64} (hv : Int64.ofNat n.val = v) (hd : decode (pm_b m) pc = .ok (.lconst n, 1)) : pm_ev τ xl xs m pc ls (st) M = pm_ev τ xl xs m (pc + 1) ls (.long v :: st) M := by subst hv; exact pm_ev_nx hd rfl rfl rfl rfl
theorem ev_ldc2_w {x : Nat} {v : Int64} (hk : pm_tq τ (pm_n m) x = some v) (hd : decode (pm_b m) pc = .ok (.ldc2_w x, 3)) : pm_ev τ xl xs m pc ls (st) M = pm_ev τ xl xs m (pc + 3) ls (.long v :: st) M := pm_ev_nx hd rfl rfl rfl (by simp only [pm_nx, hk, Option.bind_some])
theorem ev_lload_n {k : Fin 4} {x : Int64} (hk : pm_ldl (pm_w m) ls k.val = some x) (hd : decode (pm_b m) pc = .ok (.lload_n k, 1)) : pm_ev τ xl xs m pc ls (st) M = pm_ev τ xl xs m (pc + 1) ls (.long x :: st) M := pm_ev_nx hd rfl rfl rfl (by simp only [pm_nx, hk, Option.bind_some])
theorem ev_lload {k : Nat} {x : Int64} (hk : pm_ldl (pm_w m) ls k = some x) (hd : decode (pm_b m) pc = .ok (.lload k, 2)) : pm_ev τ xl xs m pc ls (st) M = pm_ev τ xl xs m (pc + 2) ls (.long x :: st) M := pm_ev_nx hd rfl rfl rfl (by simp only [pm_nx, hk, Option.bind_some])
theorem ev_lstore_n {k : Fin 4} {x : Int64} {ls' : pm_L} (hk : pm_stl (pm_w m) ls k.val (.long x :: st) = some (ls', st)) (hd : decode (pm_b m) pc = .ok (.lstore_n k, 1)) : pm_ev τ xl xs m pc ls (.long x :: st) M = pm_ev τ xl xs m (pc + 1) ls' st M := pm_ev_nx hd rfl rfl rfl (by simp only [pm_nx, hk, Option.bind_some])
theorem ev_lstore {k : Nat} {x : Int64} {ls' : pm_L} (hk : pm_stl (pm_w m) ls k (.long x :: st) = some (ls', st)) (hd : decode (pm_b m) pc = .ok (.lstore k, 2)) : pm_ev τ xl xs m pc ls (.long x :: st) M = pm_ev τ xl xs m (pc + 2) ls' st M := pm_ev_nx hd rfl rfl rfl (by simp only [pm_nx, hk, Option.bind_some])
theorem ev_lret {v : Int64} (hr : pm_r m = some .long) (hd : decode (pm_b m) pc = .ok (.lreturn, 1)) : pm_ev τ xl xs m pc ls [.long v] M = some (some (.long v), M) := pm_ev_rt hd rfl rfl (by simp only [pm_rt]; rw [if_pos hr])
/-- the object's own constructor -/
theorem ev_oinit {x o na : Nat} {m' : pm_M} (hc : pm_tc τ (pm_n m) x = some (3, m', na)) (hr : 1 ≤ pm_f m ∧ 2 * st.length + 12 ≤ pm_o m) (hd : decode (pm_b m) pc = .ok (.invokespecial x, 3)) : pm_ev τ xl xs m pc ls (.ref o :: st) M = pm_ev τ xl xs m (pc + 3) ls st M := pm_ev_nx hd rfl (by
  simp only [pm_cl, hc, Option.bind_some]
  split
  · rw [if_neg (by rintro ⟨h, -⟩; cases h)]
  · rfl) rfl (by
  simp only [pm_nx, hc, Option.bind_some]
  rw [if_pos ⟨trivial, hr⟩])
theorem ev_max {x na : Nat} {m' : pm_M} {a b : Int32} (hc : pm_tc τ (pm_n m) x = some (4, m', na)) (hr : 1 ≤ pm_f m ∧ 2 * st.length + 13 ≤ pm_o m) (hd : decode (pm_b m) pc = .ok (.invokestatic x, 3)) : pm_ev τ xl xs m pc ls (.int b :: .int a :: st) M = pm_ev τ xl xs m (pc + 3) ls (.int (if a < b then b else a) :: st) M := pm_ev_nx hd rfl (by
  simp only [pm_cl, hc, Option.bind_some]
  rw [if_neg (by rintro ⟨h, -⟩; cases h)]) rfl (by
  simp only [pm_nx, hc, Option.bind_some]
  rw [if_pos ⟨trivial, hr⟩])
theorem ev_min {x na : Nat} {m' : pm_M} {a b : Int32} (hc : pm_tc τ (pm_n m) x = some (5, m', na)) (hr : 1 ≤ pm_f m ∧ 2 * st.length + 13 ≤ pm_o m) (hd : decode (pm_b m) pc = .ok (.invokestatic x, 3)) : pm_ev τ xl xs m pc ls (.int b :: .int a :: st) M = pm_ev τ xl xs m (pc + 3) ls (.int (if b < a then b else a) :: st) M := pm_ev_nx hd rfl (by
  simp only [pm_cl, hc, Option.bind_some]
  rw [if_neg (by rintro ⟨h, -⟩; cases h)]) rfl (by
  simp only [pm_nx, hc, Option.bind_some]
  rw [if_neg (by rintro ⟨h, -⟩; cases h), if_pos ⟨trivial, hr⟩])
/-- calls: what the callee answers is bound -/
theorem ev_callV {x o na : Nat} {m' : pm_M} {As : List Value} (hc : pm_tc τ (pm_n m) x = some (0, m', na)) (hk : (pm_k M o).1 = 2 * pm_n m' + 2) (hn : As.length = na) (hr : na + 1 ≤ pm_l m' ∧ 2 * st.length ≤ 8 ∧ pm_f m' + 1 ≤ pm_f m ∧ 8 + (pm_l m' + 11) + pm_o m' ≤ pm_o m ∧ As.all pm_c1 = true) (hd : decode (pm_b m) pc = .ok (.invokevirtual x, 3)) : pm_ev τ xl xs m pc ls (As ++ .ref o :: st) M = (pm_ev τ xl xs m' 0 (pm_en m' (.ref o :: As.reverse)) [] M).bind fun q => pm_ev τ xl xs m (pc + 3) ls (q.1.toList ++ st) q.2 := by
  refine pm_ev_cl hd rfl ?_
  subst hn
  simp only [pm_cl, hc, Option.bind_some, List.drop_left, List.take_left]
  rw [if_pos ⟨trivial, hk, by simp, hr⟩]
theorem ev_callI {x o na : Nat} {m' : pm_M} {As : List Value} (hc : pm_tc τ (pm_n m) x = some (2, m', na)) (hn : As.length = na) (hr : na + 1 ≤ pm_l m' ∧ 2 * st.length ≤ 8 ∧ pm_f m' + 1 ≤ pm_f m ∧ 8 + (pm_l m' + 11) + pm_o m' ≤ pm_o m ∧ As.all pm_c1 = true) (hd : decode (pm_b m) pc = .ok (.invokespecial x, 3)) : pm_ev τ xl xs m pc ls (As ++ .ref o :: st) M = (pm_ev τ xl xs m' 0 (pm_en m' (.ref o :: As.reverse)) [] M).bind fun q => pm_ev τ xl xs m (pc + 3) ls (q.1.toList ++ st) q.2 := by
  refine pm_ev_cl hd rfl ?_
  subst hn
  simp only [pm_cl, hc, Option.bind_some, List.drop_left, List.take_left]
  rw [if_pos ⟨trivial, by simp, hr⟩]
theorem ev_callS {x na : Nat} {m' : pm_M} {As : List Value} (hc : pm_tc τ (pm_n m) x = some (1, m', na)) (hn : As.length = na) (hr : na ≤ pm_l m' ∧ 2 * st.length ≤ 8 ∧ pm_f m' + 1 ≤ pm_f m ∧ 8 + (pm_l m' + 11) + pm_o m' ≤ pm_o m ∧ As.all pm_c1 = true) (hd : decode (pm_b m) pc = .ok (.invokestatic x, 3)) : pm_ev τ xl xs m pc ls (As ++ st) M = (pm_ev τ xl xs m' 0 (pm_en m' As.reverse) [] M).bind fun q => pm_ev τ xl xs m (pc + 3) ls (q.1.toList ++ st) q.2 := by
  refine pm_ev_cl hd rfl ?_
  subst hn
  simp only [pm_cl, hc, Option.bind_some, List.drop_left, List.take_left]
  rw [if_pos ⟨trivial, by simp, hr⟩]
end PMEV
