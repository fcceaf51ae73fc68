/-! one instruction of the pure machine, on the real one -/
theorem pm_bin_spec {f : Int32 → Int32 → Int32} {st q : List Value} (h : pm_bin f st = some q) : ∃ x y rest, st = .int y :: .int x :: rest ∧ q = .int (f x y) :: rest := by
  unfold pm_bin at h
  split at h
  · cases h; exact ⟨_, _, _, rfl, rfl⟩
  · cases h
theorem pm_ldi_spec {ls : pm_L} {k : Nat} {x : Int32} (h : pm_ldi ls k = some x) : ls[k]? = some (some (.int x)) := by
  unfold pm_ldi at h
  split at h
  · rename_i hx; cases h; exact hx
  · cases h
theorem pm_lda_spec {ls : pm_L} {k : Nat} {v : Value} (base b : Nat) (h : pm_lda ls k = some v) : (ls[k]? = some (some v) ∧ pm_c1 v = true) ∧ ∃ a, pm_sh base b v = .ref a := by
  unfold pm_lda at h
  split at h
  · rename_i hx; cases h; exact ⟨⟨hx, rfl⟩, _, rfl⟩
  · rename_i hx; cases h; exact ⟨⟨hx, rfl⟩, _, rfl⟩
  · cases h
theorem pm_sti_spec {w : List Nat} {ls : pm_L} {k : Nat} {st : List Value} {q : pm_L × List Value} (h : pm_sti w ls k st = some q) : ∃ x rest, st = .int x :: rest ∧ (k < ls.length ∧ pm_nl w ls k = true) ∧ q = (ls.set k (some (.int x)), rest) := by
  unfold pm_sti at h
  split at h
  · split at h
    · rename_i hk; cases h; exact ⟨_, _, rfl, hk, rfl⟩
    · cases h
  · cases h
theorem pm_sta_spec {w : List Nat} {ls : pm_L} {k : Nat} {st : List Value} {q : pm_L × List Value} (h : pm_sta w ls k st = some q) : ∃ a rest, st = .ref a :: rest ∧ (k < ls.length ∧ pm_nl w ls k = true) ∧ q = (ls.set k (some (.ref a)), rest) := by
  unfold pm_sta at h
  split at h
  · split at h
    · rename_i hk; cases h; exact ⟨_, _, rfl, hk, rfl⟩
    · cases h
  · cases h
theorem pm_stl_spec {w : List Nat} {ls : pm_L} {k : Nat} {st : List Value} {q : pm_L × List Value} (h : pm_stl w ls k st = some q) : ∃ a rest, st = .long a :: rest ∧ (k + 1 < ls.length ∧ pm_nl w ls k = true) ∧ q = ((ls.set k (some (.long a))).set (k + 1) none, rest) := by
  unfold pm_stl at h
  split at h
  · split at h
    · rename_i hk; cases h; exact ⟨_, _, rfl, hk, rfl⟩
    · cases h
  · cases h
theorem pm_ldl_spec {w : List Nat} {ls : pm_L} {k : Nat} {x : Int64} (h : pm_ldl w ls k = some x) : ls[k]? = some (some (.long x)) ∧ w.contains k = true := by
  unfold pm_ldl at h
  split at h
  · rename_i hx
    split at h
    · rename_i hc; cases h; exact ⟨hx, hc⟩
    · cases h
  · cases h
theorem pm_binL_spec {f : Int64 → Int64 → Int64} {st q : List Value} (h : pm_binL f st = some q) : ∃ x y rest, st = .long y :: .long x :: rest ∧ q = .long (f x y) :: rest := by
  unfold pm_binL at h
  split at h
  · cases h; exact ⟨_, _, _, rfl, rfl⟩
  · cases h
theorem pm_jmp_spec {pc t : Nat} {off : Int} (h : pm_jmp pc off = some t) : (pc : Int) + off = (t : Int) := by
  unfold pm_jmp at h
  split at h
  · cases h; omega
  · cases h
section PMN
variable {p : Program} {l : Launch} {e : Env} {R : Room} {s : State} {mi : MethodId} {args : Array Value} {below : List Frame} {meth : Method} {c0 : Code} {H : Heap} {locs : List Loc} {cells slots : Nat} {Q : State → Prop}
variable {la : Array Slot}
variable {τ : pm_T} {cl : List vw_C} {acs : List Nat} {Rn : Nat → String} {Ts : List Jvm.Cond} {D : va_G} {cA : Nat → ClassId} {base b xl : Nat} {xs : Nat → Int32}
set_option maxHeartbeats 4000000 in
theorem pm_nxW {m : pm_M} {pc pc' len : Nat} {ls ls' : pm_L} {st st' : List Value} {M M' : pm_H} {i : Instr}
    (hx : p.tables.exec = Jvm.exec) (hb : c0.code = pm_b m) (hok : pm_ok τ cl acs Rn Ts) (hts : ∀ w ∈ Ts, w.before args s = true) (hown : s.vm.findClass (Rn (pm_n m)) = some mi.cls) (hname : (pm_y m).name = "<init>" → meth.name = "<init>") (hml : c0.maxLocals = pm_l m) (hRf : R.frames = pm_f m) (hRo : R.locals = pm_o m) (hK : pm_K cl acs D cA s) (hbb : b < base)
    (hd : decode (pm_b m) pc = .ok (i, len)) (hln : pm_ln i len = true) (hn : pm_nx τ m xl xs pc ls st M i = some (pc', ls', st', M')) (hR : pm_Rl τ cl acs D cA base b xl xs s M H locs) (hl : lv_has la (pm_l m) (pm_as (pm_w m) base b ls)) (hlen : ls.length = pm_l m) (hcell : cells + (M'.1 - M.1) ≤ R.cells) (hslot : slots + (M'.2.1 - M.2.1) ≤ R.slots)
    (kk : ∀ (H1 : Heap) (locs1 : List Loc) (la1 : Array Slot), pm_Rl τ cl acs D cA base b xl xs s M' H1 locs1 → lv_has la1 (pm_l m) (pm_as (pm_w m) base b ls') → ls'.length = pm_l m → W p l e R s mi args below meth c0 H1 locs1 (cells + (M'.1 - M.1)) (slots + (M'.2.1 - M.2.1)) Q (F0 mi pc' la1 (st'.map (pm_sh base b)))) :
    W p l e R s mi args below meth c0 H locs cells slots Q (F0 mi pc la (st.map (pm_sh base b))) := by
  have kk0 : M' = M → ∀ la1 : Array Slot, lv_has la1 (pm_l m) (pm_as (pm_w m) base b ls') → ls'.length = pm_l m → W p l e R s mi args below meth c0 H locs cells slots Q (F0 mi pc' la1 (st'.map (pm_sh base b))) := by
    rintro rfl la1 h1 h2
    have := kk H locs la1 hR h1 h2
    rwa [Nat.sub_self, Nat.sub_self, Nat.add_zero, Nat.add_zero] at this
  have kk1 : M'.1 = M.1 → M'.2.1 = M.2.1 → ls' = ls → ∀ (H1 : Heap) (locs1 : List Loc), pm_Rl τ cl acs D cA base b xl xs s M' H1 locs1 → W p l e R s mi args below meth c0 H1 locs1 cells slots Q (F0 mi pc' la (st'.map (pm_sh base b))) := by
    rintro e1 e2 rfl H1 locs1 h1
    have := kk H1 locs1 la h1 hl hlen
    rwa [e1, e2, Nat.sub_self, Nat.sub_self, Nat.add_zero, Nat.add_zero] at this
  cases i with
  | iconst n =>
    obtain rfl : len = 1 := by simpa [pm_ln] using hln
    simp only [pm_nx, Option.some.injEq, Prod.mk.injEq] at hn
    obtain ⟨rfl, rfl, rfl, rfl⟩ := hn
    exact lv_iconst hx hb hd rfl (kk0 rfl la hl hlen)
  | bipush n =>
    obtain rfl : len = 2 := by simpa [pm_ln] using hln
    simp only [pm_nx, Option.some.injEq, Prod.mk.injEq] at hn
    obtain ⟨rfl, rfl, rfl, rfl⟩ := hn
    exact lv_bipush hx hb hd rfl (kk0 rfl la hl hlen)
  | sipush n =>
    obtain rfl : len = 3 := by simpa [pm_ln] using hln
    simp only [pm_nx, Option.some.injEq, Prod.mk.injEq] at hn
    obtain ⟨rfl, rfl, rfl, rfl⟩ := hn
    exact lv_sipush hx hb hd rfl (kk0 rfl la hl hlen)
  | ldc x =>
    obtain rfl : len = 2 := by simpa [pm_ln] using hln
    simp only [pm_nx, Option.bind_eq_some_iff, Option.some.injEq, Prod.mk.injEq] at hn
    obtain ⟨v, hv, rfl, rfl, rfl, rfl⟩ := hn
    exact lv_ldc hx hb hown (hts _ (hok.2.2.2.1.1 _ _ _ hv)) hd (kk0 rfl la hl hlen)
  | ldc_w x =>
    obtain rfl : len = 3 := by simpa [pm_ln] using hln
    simp only [pm_nx, Option.bind_eq_some_iff, Option.some.injEq, Prod.mk.injEq] at hn
    obtain ⟨v, hv, rfl, rfl, rfl, rfl⟩ := hn
    exact lv_ldcw hx hb hown (hts _ (hok.2.2.2.1.1 _ _ _ hv)) hd (kk0 rfl la hl hlen)
  | iload_n k =>
    obtain rfl : len = 1 := by simpa [pm_ln] using hln
    simp only [pm_nx, Option.bind_eq_some_iff, Option.some.injEq, Prod.mk.injEq] at hn
    obtain ⟨v, hv, rfl, rfl, rfl, rfl⟩ := hn
    exact lv_iload_n hx hb hd rfl (pm_as_at hl (Or.inl rfl) (pm_ldi_spec hv)) (kk0 rfl la hl hlen)
  | iload k =>
    obtain rfl : len = 2 := by simpa [pm_ln] using hln
    simp only [pm_nx, Option.bind_eq_some_iff, Option.some.injEq, Prod.mk.injEq] at hn
    obtain ⟨v, hv, rfl, rfl, rfl, rfl⟩ := hn
    exact lv_iload hx hb hd (pm_as_at hl (Or.inl rfl) (pm_ldi_spec hv)) (kk0 rfl la hl hlen)
  | aload_n k =>
    obtain rfl : len = 1 := by simpa [pm_ln] using hln
    simp only [pm_nx, Option.bind_eq_some_iff, Option.some.injEq, Prod.mk.injEq] at hn
    obtain ⟨v, hv, rfl, rfl, rfl, rfl⟩ := hn
    obtain ⟨h1, a, h2⟩ := pm_lda_spec base b hv
    have h3 := pm_as_at hl (Or.inl h1.2) h1.1
    have h4 := kk0 rfl la hl hlen
    rw [List.map_cons, h2] at h4
    rw [h2] at h3
    exact lv_aload_n hx hb hd rfl h3 h4
  | aload k =>
    obtain rfl : len = 2 := by simpa [pm_ln] using hln
    simp only [pm_nx, Option.bind_eq_some_iff, Option.some.injEq, Prod.mk.injEq] at hn
    obtain ⟨v, hv, rfl, rfl, rfl, rfl⟩ := hn
    obtain ⟨h1, a, h2⟩ := pm_lda_spec base b hv
    have h3 := pm_as_at hl (Or.inl h1.2) h1.1
    have h4 := kk0 rfl la hl hlen
    rw [List.map_cons, h2] at h4
    rw [h2] at h3
    exact lv_aload hx hb hd h3 h4
  | istore_n k =>
    obtain rfl : len = 1 := by simpa [pm_ln] using hln
    simp only [pm_nx, Option.bind_eq_some_iff, Option.some.injEq, Prod.mk.injEq] at hn
    obtain ⟨q, hv, rfl, rfl, rfl, rfl⟩ := hn
    obtain ⟨x, rest, rfl, h1, rfl⟩ := pm_sti_spec hv
    exact lv_istore_n hx hb hd rfl hl (by rw [← hlen]; exact h1.1) rfl fun la1 h2 => kk0 rfl la1 (pm_as_set h1.2 (v := .int x) h2) (by simpa using hlen)
  | istore k =>
    obtain rfl : len = 2 := by simpa [pm_ln] using hln
    simp only [pm_nx, Option.bind_eq_some_iff, Option.some.injEq, Prod.mk.injEq] at hn
    obtain ⟨q, hv, rfl, rfl, rfl, rfl⟩ := hn
    obtain ⟨x, rest, rfl, h1, rfl⟩ := pm_sti_spec hv
    exact lv_istore hx hb hd hl (by rw [← hlen]; exact h1.1) rfl fun la1 h2 => kk0 rfl la1 (pm_as_set h1.2 (v := .int x) h2) (by simpa using hlen)
  | astore_n k =>
    obtain rfl : len = 1 := by simpa [pm_ln] using hln
    simp only [pm_nx, Option.bind_eq_some_iff, Option.some.injEq, Prod.mk.injEq] at hn
    obtain ⟨q, hv, rfl, rfl, rfl, rfl⟩ := hn
    obtain ⟨x, rest, rfl, h1, rfl⟩ := pm_sta_spec hv
    exact lv_astore_n hx hb hd rfl hl (by rw [← hlen]; exact h1.1) rfl fun la1 h2 => kk0 rfl la1 (pm_as_set h1.2 (v := .ref x) h2) (by simpa using hlen)
  | astore k =>
    obtain rfl : len = 2 := by simpa [pm_ln] using hln
    simp only [pm_nx, Option.bind_eq_some_iff, Option.some.injEq, Prod.mk.injEq] at hn
    obtain ⟨q, hv, rfl, rfl, rfl, rfl⟩ := hn
    obtain ⟨x, rest, rfl, h1, rfl⟩ := pm_sta_spec hv
    exact lv_astore hx hb hd hl (by rw [← hlen]; exact h1.1) rfl fun la1 h2 => kk0 rfl la1 (pm_as_set h1.2 (v := .ref x) h2) (by simpa using hlen)
  | iinc k n =>
    obtain rfl : len = 3 := by simpa [pm_ln] using hln
    simp only [pm_nx, Option.bind_eq_some_iff] at hn
    obtain ⟨x, hv, hn⟩ := hn
    split at hn
    · rename_i hk
      simp only [Option.some.injEq, Prod.mk.injEq] at hn
      obtain ⟨rfl, rfl, rfl, rfl⟩ := hn
      obtain ⟨j, hj⟩ := List.getElem?_of_mem (pm_as_mem.mpr ⟨_, pm_ldi_spec hv, Or.inl rfl, rfl⟩ : (k, pm_sh base b (.int x)) ∈ pm_as (pm_w m) base b ls)
      exact lv_iinc hx hb hd hl hj rfl (by rw [← hlen]; exact hk.1) rfl fun la1 h2 => kk0 rfl la1 (pm_as_set hk.2 (v := .int (x + Int32.ofInt n)) h2) (by simpa using hlen)
    · cases hn
  | iadd =>
    obtain rfl : len = 1 := by simpa [pm_ln] using hln
    simp only [pm_nx, Option.bind_eq_some_iff, Option.some.injEq, Prod.mk.injEq] at hn
    obtain ⟨q, hv, rfl, rfl, rfl, rfl⟩ := hn
    obtain ⟨x, y, rest, rfl, rfl⟩ := pm_bin_spec hv
    exact lv_iadd hx hb hd (kk0 rfl la hl hlen)
  | isub =>
    obtain rfl : len = 1 := by simpa [pm_ln] using hln
    simp only [pm_nx, Option.bind_eq_some_iff, Option.some.injEq, Prod.mk.injEq] at hn
    obtain ⟨q, hv, rfl, rfl, rfl, rfl⟩ := hn
    obtain ⟨x, y, rest, rfl, rfl⟩ := pm_bin_spec hv
    exact lv_isub hx hb hd (kk0 rfl la hl hlen)
  | imul =>
    obtain rfl : len = 1 := by simpa [pm_ln] using hln
    simp only [pm_nx, Option.bind_eq_some_iff, Option.some.injEq, Prod.mk.injEq] at hn
    obtain ⟨q, hv, rfl, rfl, rfl, rfl⟩ := hn
    obtain ⟨x, y, rest, rfl, rfl⟩ := pm_bin_spec hv
    exact lv_imul hx hb hd (kk0 rfl la hl hlen)
  | iand =>
    obtain rfl : len = 1 := by simpa [pm_ln] using hln
    simp only [pm_nx, Option.bind_eq_some_iff, Option.some.injEq, Prod.mk.injEq] at hn
    obtain ⟨q, hv, rfl, rfl, rfl, rfl⟩ := hn
    obtain ⟨x, y, rest, rfl, rfl⟩ := pm_bin_spec hv
    exact lv_iand hx hb hd (kk0 rfl la hl hlen)
  | ior =>
    obtain rfl : len = 1 := by simpa [pm_ln] using hln
    simp only [pm_nx, Option.bind_eq_some_iff, Option.some.injEq, Prod.mk.injEq] at hn
    obtain ⟨q, hv, rfl, rfl, rfl, rfl⟩ := hn
    obtain ⟨x, y, rest, rfl, rfl⟩ := pm_bin_spec hv
    exact lv_ior hx hb hd (kk0 rfl la hl hlen)
  | ixor =>
    obtain rfl : len = 1 := by simpa [pm_ln] using hln
    simp only [pm_nx, Option.bind_eq_some_iff, Option.some.injEq, Prod.mk.injEq] at hn
    obtain ⟨q, hv, rfl, rfl, rfl, rfl⟩ := hn
    obtain ⟨x, y, rest, rfl, rfl⟩ := pm_bin_spec hv
    exact lv_ixor hx hb hd (kk0 rfl la hl hlen)
  | ladd =>
    obtain rfl : len = 1 := by simpa [pm_ln] using hln
    simp only [pm_nx, Option.bind_eq_some_iff, Option.some.injEq, Prod.mk.injEq] at hn
    obtain ⟨q, hv, rfl, rfl, rfl, rfl⟩ := hn
    obtain ⟨x, y, rest, rfl, rfl⟩ := pm_binL_spec hv
    exact lv_ladd hx hb hd (kk0 rfl la hl hlen)
  | lmul =>
    obtain rfl : len = 1 := by simpa [pm_ln] using hln
    simp only [pm_nx, Option.bind_eq_some_iff, Option.some.injEq, Prod.mk.injEq] at hn
    obtain ⟨q, hv, rfl, rfl, rfl, rfl⟩ := hn
    obtain ⟨x, y, rest, rfl, rfl⟩ := pm_binL_spec hv
    exact lv_lmul hx hb hd (kk0 rfl la hl hlen)
  | i2l =>
    obtain rfl : len = 1 := by simpa [pm_ln] using hln
    simp only [pm_nx] at hn
    split at hn
    · simp only [Option.some.injEq, Prod.mk.injEq] at hn
      obtain ⟨rfl, rfl, rfl, rfl⟩ := hn
      exact lv_i2l hx hb hd rfl (kk0 rfl la hl hlen)
    · cases hn
  | lcmp =>
    obtain rfl : len = 1 := by simpa [pm_ln] using hln
    simp only [pm_nx] at hn
    split at hn
    · simp only [Option.some.injEq, Prod.mk.injEq] at hn
      obtain ⟨rfl, rfl, rfl, rfl⟩ := hn
      exact W.lcmp hx hb hd (kk0 rfl la hl hlen)
    · cases hn
  | lconst n =>
    obtain rfl : len = 1 := by simpa [pm_ln] using hln
    simp only [pm_nx, Option.some.injEq, Prod.mk.injEq] at hn
    obtain ⟨rfl, rfl, rfl, rfl⟩ := hn
    exact lv_lconst hx hb hd rfl (kk0 rfl la hl hlen)
  | ldc2_w x =>
    obtain rfl : len = 3 := by simpa [pm_ln] using hln
    simp only [pm_nx, Option.bind_eq_some_iff, Option.some.injEq, Prod.mk.injEq] at hn
    obtain ⟨v, hv, rfl, rfl, rfl, rfl⟩ := hn
    exact lv_ldc2 hx hb hown (hts _ (hok.2.2.2.1.2 _ _ _ hv)) hd (kk0 rfl la hl hlen)
  | lload_n k =>
    obtain rfl : len = 1 := by simpa [pm_ln] using hln
    simp only [pm_nx, Option.bind_eq_some_iff, Option.some.injEq, Prod.mk.injEq] at hn
    obtain ⟨v, hv, rfl, rfl, rfl, rfl⟩ := hn
    obtain ⟨h1, h2⟩ := pm_ldl_spec hv
    exact lv_lload_n hx hb hd rfl (pm_as_at hl (Or.inr h2) h1) (kk0 rfl la hl hlen)
  | lload k =>
    obtain rfl : len = 2 := by simpa [pm_ln] using hln
    simp only [pm_nx, Option.bind_eq_some_iff, Option.some.injEq, Prod.mk.injEq] at hn
    obtain ⟨v, hv, rfl, rfl, rfl, rfl⟩ := hn
    obtain ⟨h1, h2⟩ := pm_ldl_spec hv
    exact lv_lload hx hb hd (pm_as_at hl (Or.inr h2) h1) (kk0 rfl la hl hlen)
  | lstore_n k =>
    obtain rfl : len = 1 := by simpa [pm_ln] using hln
    simp only [pm_nx, Option.bind_eq_some_iff, Option.some.injEq, Prod.mk.injEq] at hn
    obtain ⟨q, hv, rfl, rfl, rfl, rfl⟩ := hn
    obtain ⟨x, rest, rfl, h1, rfl⟩ := pm_stl_spec hv
    exact lv_lstore_n hx hb hd rfl hl (by rw [← hlen]; exact h1.1) rfl fun la1 h2 => kk0 rfl la1 (pm_as_setL h1.2 h2) (by simpa using hlen)
  | lstore k =>
    obtain rfl : len = 2 := by simpa [pm_ln] using hln
    simp only [pm_nx, Option.bind_eq_some_iff, Option.some.injEq, Prod.mk.injEq] at hn
    obtain ⟨q, hv, rfl, rfl, rfl, rfl⟩ := hn
    obtain ⟨x, rest, rfl, h1, rfl⟩ := pm_stl_spec hv
    exact lv_lstore hx hb hd hl (by rw [← hlen]; exact h1.1) rfl fun la1 h2 => kk0 rfl la1 (pm_as_setL h1.2 h2) (by simpa using hlen)
  | ishl =>
    obtain rfl : len = 1 := by simpa [pm_ln] using hln
    simp only [pm_nx, Option.bind_eq_some_iff, Option.some.injEq, Prod.mk.injEq] at hn
    obtain ⟨q, hv, rfl, rfl, rfl, rfl⟩ := hn
    obtain ⟨x, y, rest, rfl, rfl⟩ := pm_bin_spec hv
    exact lv_ishl hx hb hd (kk0 rfl la hl hlen)
  | ishr =>
    obtain rfl : len = 1 := by simpa [pm_ln] using hln
    simp only [pm_nx, Option.bind_eq_some_iff, Option.some.injEq, Prod.mk.injEq] at hn
    obtain ⟨q, hv, rfl, rfl, rfl, rfl⟩ := hn
    obtain ⟨x, y, rest, rfl, rfl⟩ := pm_bin_spec hv
    exact lv_ishr hx hb hd (kk0 rfl la hl hlen)
  | iushr =>
    obtain rfl : len = 1 := by simpa [pm_ln] using hln
    simp only [pm_nx, Option.bind_eq_some_iff, Option.some.injEq, Prod.mk.injEq] at hn
    obtain ⟨q, hv, rfl, rfl, rfl, rfl⟩ := hn
    obtain ⟨x, y, rest, rfl, rfl⟩ := pm_bin_spec hv
    exact lv_iushr hx hb hd rfl (kk0 rfl la hl hlen)
  | idiv =>
    obtain rfl : len = 1 := by simpa [pm_ln] using hln
    simp only [pm_nx] at hn
    split at hn
    · split at hn
      · cases hn
      · rename_i hy
        simp only [Option.some.injEq, Prod.mk.injEq] at hn
        obtain ⟨rfl, rfl, rfl, rfl⟩ := hn
        exact lv_idiv hx hb hd hy (kk0 rfl la hl hlen)
    · cases hn
  | irem =>
    obtain rfl : len = 1 := by simpa [pm_ln] using hln
    simp only [pm_nx] at hn
    split at hn
    · split at hn
      · cases hn
      · rename_i hy
        simp only [Option.some.injEq, Prod.mk.injEq] at hn
        obtain ⟨rfl, rfl, rfl, rfl⟩ := hn
        exact lv_irem hx hb hd hy (kk0 rfl la hl hlen)
    · cases hn
  | dup =>
    obtain rfl : len = 1 := by simpa [pm_ln] using hln
    simp only [pm_nx] at hn
    split at hn
    · split at hn
      · rename_i hc
        simp only [Option.some.injEq, Prod.mk.injEq] at hn
        obtain ⟨rfl, rfl, rfl, rfl⟩ := hn
        exact lv_dup hx hb hd (pm_sh_cat _ _ _ hc) (kk0 rfl la hl hlen)
      · cases hn
    · cases hn
  | dup2 =>
    obtain rfl : len = 1 := by simpa [pm_ln] using hln
    simp only [pm_nx] at hn
    split at hn
    · split at hn
      · rename_i hc
        simp only [Option.some.injEq, Prod.mk.injEq] at hn
        obtain ⟨rfl, rfl, rfl, rfl⟩ := hn
        exact lv_dup2_11 hx hb hd (pm_sh_cat _ _ _ hc.1) (pm_sh_cat _ _ _ hc.2) (kk0 rfl la hl hlen)
      · cases hn
    · cases hn
  | pop =>
    obtain rfl : len = 1 := by simpa [pm_ln] using hln
    simp only [pm_nx] at hn
    split at hn
    · split at hn
      · rename_i hc
        simp only [Option.some.injEq, Prod.mk.injEq] at hn
        obtain ⟨rfl, rfl, rfl, rfl⟩ := hn
        exact lv_pop hx hb hd (pm_sh_cat _ _ _ hc) (kk0 rfl la hl hlen)
      · cases hn
    · cases hn
  | goto off =>
    obtain rfl : len = 3 := by simpa [pm_ln] using hln
    simp only [pm_nx, Option.bind_eq_some_iff, Option.some.injEq, Prod.mk.injEq] at hn
    obtain ⟨t, ht, rfl, rfl, rfl, rfl⟩ := hn
    exact lv_goto hx hb hd (pm_jmp_spec ht) (kk0 rfl la hl hlen)
  | ifCond c off =>
    obtain rfl : len = 3 := by simpa [pm_ln] using hln
    simp only [pm_nx] at hn
    split at hn
    · simp only [Option.bind_eq_some_iff, Option.some.injEq, Prod.mk.injEq] at hn
      obtain ⟨t, ht, rfl, rfl, rfl, rfl⟩ := hn
      have ht := pm_jmp_spec ht
      have k0 := kk0 rfl la hl hlen
      cases c with
      | eq => exact lv_if_eq hx hb hd ht (fun h => by rw [if_pos (by simpa [pm_cmp] using h)] at k0; exact k0) (fun h => by rw [if_neg (by simpa [pm_cmp] using h)] at k0; exact k0)
      | ne => exact lv_if_ne hx hb hd ht (fun h => by rw [if_pos (by simpa [pm_cmp] using h)] at k0; exact k0) (fun h => by rw [if_neg (by simpa [pm_cmp] using h)] at k0; exact k0)
      | lt => exact lv_if_lt hx hb hd ht (fun h => by rw [if_pos (by simpa [pm_cmp] using h)] at k0; exact k0) (fun h => by rw [if_neg (by simpa [pm_cmp] using h)] at k0; exact k0)
      | ge => exact lv_if_ge hx hb hd ht (fun h => by rw [if_pos (by simpa [pm_cmp] using h)] at k0; exact k0) (fun h => by rw [if_neg (by simpa [pm_cmp] using h)] at k0; exact k0)
      | gt => exact lv_if_gt hx hb hd ht (fun h => by rw [if_pos (by simpa [pm_cmp] using h)] at k0; exact k0) (fun h => by rw [if_neg (by simpa [pm_cmp] using h)] at k0; exact k0)
      | le => exact lv_if_le hx hb hd ht (fun h => by rw [if_pos (by simpa [pm_cmp] using h)] at k0; exact k0) (fun h => by rw [if_neg (by simpa [pm_cmp] using h)] at k0; exact k0)
    · cases hn
  | if_icmp c off =>
    obtain rfl : len = 3 := by simpa [pm_ln] using hln
    simp only [pm_nx] at hn
    split at hn
    · simp only [Option.bind_eq_some_iff, Option.some.injEq, Prod.mk.injEq] at hn
      obtain ⟨t, ht, rfl, rfl, rfl, rfl⟩ := hn
      have ht := pm_jmp_spec ht
      have k0 := kk0 rfl la hl hlen
      cases c with
      | eq => exact lv_icmp_eq hx hb hd ht (fun h => by rw [if_pos (by simpa [pm_cmp] using h)] at k0; exact k0) (fun h => by rw [if_neg (by simpa [pm_cmp] using h)] at k0; exact k0)
      | ne => exact lv_icmp_ne hx hb hd ht (fun h => by rw [if_pos (by simpa [pm_cmp] using h)] at k0; exact k0) (fun h => by rw [if_neg (by simpa [pm_cmp] using h)] at k0; exact k0)
      | lt => exact lv_icmp_lt hx hb hd ht (fun h => by rw [if_pos (by simpa [pm_cmp] using h)] at k0; exact k0) (fun h => by rw [if_neg (by simpa [pm_cmp] using h)] at k0; exact k0)
      | ge => exact lv_icmp_ge hx hb hd ht (fun h => by rw [if_pos (by simpa [pm_cmp] using h)] at k0; exact k0) (fun h => by rw [if_neg (by simpa [pm_cmp] using h)] at k0; exact k0)
      | gt => exact lv_icmp_gt hx hb hd ht (fun h => by rw [if_pos (by simpa [pm_cmp] using h)] at k0; exact k0) (fun h => by rw [if_neg (by simpa [pm_cmp] using h)] at k0; exact k0)
      | le => exact lv_icmp_le hx hb hd ht (fun h => by rw [if_pos (by simpa [pm_cmp] using h)] at k0; exact k0) (fun h => by rw [if_neg (by simpa [pm_cmp] using h)] at k0; exact k0)
    · cases hn
  | tableswitch dflt lo hi offs =>
    simp only [pm_nx] at hn
    split at hn
    · simp only [Option.bind_eq_some_iff, Option.some.injEq, Prod.mk.injEq] at hn
      obtain ⟨off, ho, t, ht, rfl, rfl, rfl, rfl⟩ := hn
      have ht := pm_jmp_spec ht
      split at ho
      · rename_i h
        cases ho
        exact lv_tableOut hx hb hd h ht (kk0 rfl la hl hlen)
      · rename_i h
        exact lv_tableIn hx hb hd (fun h' => h (Or.inl h')) (fun h' => h (Or.inr h')) ho ht (kk0 rfl la hl hlen)
    · cases hn
  | getfield x =>
    obtain rfl : len = 3 := by simpa [pm_ln] using hln
    simp only [pm_nx, Option.bind_eq_some_iff] at hn
    obtain ⟨⟨c, j⟩, hf, hn⟩ := hn
    split at hn
    · split at hn
      · rename_i hk
        simp only [Option.some.injEq, Prod.mk.injEq] at hn
        obtain ⟨rfl, rfl, rfl, rfl⟩ := hn
        exact pm_getW hx hb hok hts hown hK hR.1 hf hk hd (kk0 rfl la hl hlen)
      · cases hn
    · cases hn
  | putfield x =>
    obtain rfl : len = 3 := by simpa [pm_ln] using hln
    simp only [pm_nx, Option.bind_eq_some_iff] at hn
    obtain ⟨⟨c, j⟩, hf, hn⟩ := hn
    split at hn
    · split at hn
      · rename_i hk
        simp only [Option.some.injEq, Prod.mk.injEq] at hn
        obtain ⟨rfl, rfl, rfl, rfl⟩ := hn
        exact pm_putIW hx hb hok hts hown hK hbb hR hf hk.1 hk.2 hd (kk1 rfl rfl rfl)
      · cases hn
    · split at hn
      · rename_i hk
        simp only [Option.some.injEq, Prod.mk.injEq] at hn
        obtain ⟨rfl, rfl, rfl, rfl⟩ := hn
        exact pm_putRW hx hb hok hts hown (hname hk.2.2.1) hk.2.2.2 hK hbb hR hf hk.1 hk.2.1 hd (kk1 rfl rfl rfl)
      · cases hn
    · cases hn
  | iaload =>
    obtain rfl : len = 1 := by simpa [pm_ln] using hln
    simp only [pm_nx] at hn
    split at hn
    · split at hn
      · rename_i hk
        simp only [Option.some.injEq, Prod.mk.injEq] at hn
        obtain ⟨rfl, rfl, rfl, rfl⟩ := hn
        exact pm_ialdW hx hb hK hR.1 hk.1 hk.2 hd (kk0 rfl la hl hlen)
      · cases hn
    · split at hn
      · cases hn
      · rename_i hk
        simp only [Option.some.injEq, Prod.mk.injEq] at hn
        obtain ⟨rfl, rfl, rfl, rfl⟩ := hn
        obtain ⟨scr, h1, h2, h3, h4, h5⟩ := hR.2.1
        have hlt := Nat.not_le.mp fun q => hk (Or.inr q)
        exact W.iald hx hb h1 h2 h3 (by rw [h4]; exact hk) (h5 _ hlt) rfl rfl hd (kk0 rfl la hl hlen)
    · cases hn
  | iastore =>
    obtain rfl : len = 1 := by simpa [pm_ln] using hln
    simp only [pm_nx] at hn
    split at hn
    · split at hn
      · rename_i hk
        simp only [Option.some.injEq, Prod.mk.injEq] at hn
        obtain ⟨rfl, rfl, rfl, rfl⟩ := hn
        exact pm_iastW hx hb hK hbb hR hk.1 hk.2 hd (kk1 rfl rfl rfl)
      · cases hn
    · cases hn
  | aaload =>
    obtain rfl : len = 1 := by simpa [pm_ln] using hln
    simp only [pm_nx] at hn
    split at hn
    · split at hn
      · rename_i o rest hk
        simp only [Option.some.injEq, Prod.mk.injEq] at hn
        obtain ⟨rfl, rfl, rfl, rfl⟩ := hn
        exact pm_aaldW (c := ((pm_k M o).1 - 3) / 2) hx hb hok hK hR.1 (by omega) hk.2.2 hd (kk0 rfl la hl hlen)
      · cases hn
    · cases hn
  | aastore =>
    obtain rfl : len = 1 := by simpa [pm_ln] using hln
    simp only [pm_nx] at hn
    split at hn
    · split at hn
      · rename_i v i o rest hk
        simp only [Option.some.injEq, Prod.mk.injEq] at hn
        obtain ⟨rfl, rfl, rfl, rfl⟩ := hn
        exact pm_aastW (c := ((pm_k M o).1 - 3) / 2) hx hb hok hK hbb hR (by omega) hk.2.2.1 (by omega) hd (kk1 rfl rfl rfl)
      · cases hn
    · cases hn
  | arraylength =>
    obtain rfl : len = 1 := by simpa [pm_ln] using hln
    simp only [pm_nx] at hn
    split at hn
    · simp only [Option.some.injEq, Prod.mk.injEq] at hn
      obtain ⟨rfl, rfl, rfl, rfl⟩ := hn
      obtain ⟨scr, h1, h2, h3, h4, h5⟩ := hR.2.1
      exact W.alen hx hb h1 h2 (by rw [h4] <;> rfl) rfl rfl hd (kk0 rfl la hl hlen)
    · split at hn
      · rename_i hk
        simp only [Option.some.injEq, Prod.mk.injEq] at hn
        obtain ⟨rfl, rfl, rfl, rfl⟩ := hn
        exact pm_alenW hx hb hK hR.1 hk hd (kk0 rfl la hl hlen)
      · cases hn
    · cases hn
  | new x =>
    obtain rfl : len = 3 := by simpa [pm_ln] using hln
    simp only [pm_nx, Option.bind_eq_some_iff, Option.some.injEq, Prod.mk.injEq] at hn
    obtain ⟨c, hc, rfl, rfl, rfl, rfl⟩ := hn
    have e1 : (pm_new M (2 * c + 2) (pm_tl τ c)).1 - M.1 = 1 := by show M.1 + 1 - M.1 = 1; omega
    have e2 : (pm_new M (2 * c + 2) (pm_tl τ c)).2.1 - M.2.1 = pm_tl τ c := by show M.2.1 + _ - M.2.1 = _; omega
    rw [e1] at hcell kk
    rw [e2] at hslot kk
    exact pm_newW hx hb hok hts hown hK hbb hR hc hcell hslot hd fun H1 h1 => kk H1 locs la h1 hl hlen
  | newarray t =>
    obtain rfl : len = 2 := by simpa [pm_ln] using hln
    simp only [pm_nx] at hn
    split at hn
    · split at hn
      · rename_i n rest hk
        simp only [Option.some.injEq, Prod.mk.injEq] at hn
        obtain ⟨rfl, rfl, rfl, rfl⟩ := hn
        obtain ⟨rfl, h1, h2⟩ := hk
        have e1 : (pm_new M 1 n.toNatClampNeg).1 - M.1 = 1 := by show M.1 + 1 - M.1 = 1; omega
        have e2 : (pm_new M 1 n.toNatClampNeg).2.1 - M.2.1 = n.toNatClampNeg := by show M.2.1 + _ - M.2.1 = _; omega
        rw [e1] at hcell kk
        rw [e2] at hslot kk
        exact pm_newaW hx hb hok hts hK hbb hR h1 h2 hcell hslot hd fun H1 h1 => kk H1 locs la h1 hl hlen
      · cases hn
    · cases hn
  | anewarray x =>
    obtain rfl : len = 3 := by simpa [pm_ln] using hln
    simp only [pm_nx, Option.bind_eq_some_iff] at hn
    obtain ⟨c, hc, hn⟩ := hn
    split at hn
    · split at hn
      · rename_i n rest hk
        simp only [Option.some.injEq, Prod.mk.injEq] at hn
        obtain ⟨rfl, rfl, rfl, rfl⟩ := hn
        obtain ⟨h1, h2⟩ := hk
        have e1 : (pm_new M (2 * c + 3) n.toNatClampNeg).1 - M.1 = 1 := by show M.1 + 1 - M.1 = 1; omega
        have e2 : (pm_new M (2 * c + 3) n.toNatClampNeg).2.1 - M.2.1 = n.toNatClampNeg := by show M.2.1 + _ - M.2.1 = _; omega
        rw [e1] at hcell kk
        rw [e2] at hslot kk
        exact pm_anewW hx hb hok hts hown hK hbb hR hc h1 h2 hcell hslot hd fun H1 h1 => kk H1 locs la h1 hl hlen
      · cases hn
    · cases hn
  | invokespecial x =>
    obtain rfl : len = 3 := by simpa [pm_ln] using hln
    simp only [pm_nx, Option.bind_eq_some_iff] at hn
    obtain ⟨q, hq, hn⟩ := hn
    split at hn
    · split at hn
      · rename_i o rest hk
        simp only [Option.some.injEq, Prod.mk.injEq] at hn
        obtain ⟨rfl, rfl, rfl, rfl⟩ := hn
        obtain ⟨h1, h2, h3⟩ := (hok.2.2.2.2.2.2.2.2 _ _ _ hq).1 hk.1
        refine W.objInit hx hb hown (hts _ h1) (hts _ h2) (hts _ h3) rfl (hl.1.trans hml.symm) rfl hd (by rw [hRf]; exact hk.2.1) ?_ (kk0 rfl la hl hlen)
        rw [hRo]
        have := pm_cats base b rest
        show 2 * 0 + _ + 12 ≤ _
        omega
      · cases hn
    · cases hn
  | invokestatic x =>
    obtain rfl : len = 3 := by simpa [pm_ln] using hln
    simp only [pm_nx, Option.bind_eq_some_iff] at hn
    obtain ⟨q, hq, hn⟩ := hn
    have hC := hok.2.2.2.2.2.2.2.2 _ _ _ hq
    split at hn
    · split at hn
      · rename_i b0 a0 rest hk
        simp only [Option.some.injEq, Prod.mk.injEq] at hn
        obtain ⟨rfl, rfl, rfl, rfl⟩ := hn
        obtain ⟨h1, h2, h3, h4⟩ := hC.2.2.2.2.2.1 hk.1
        exact va_mmax hx hb (hml.trans hl.1.symm) hown (hts _ h1) (hts _ h2) (hts _ h3) (hts _ h4) (by rw [hRf]; exact hk.2.1) (by rw [hRo]; have := pm_cats base b rest; have := hk.2.2; omega) (by omega) (by omega) hd (kk0 rfl la hl hlen)
      · split at hn
        · rename_i b0 a0 rest _ hk
          simp only [Option.some.injEq, Prod.mk.injEq] at hn
          obtain ⟨rfl, rfl, rfl, rfl⟩ := hn
          obtain ⟨h1, h2, h3, h4⟩ := hC.2.2.2.2.2.2 hk.1
          exact va_mmin hx hb (hml.trans hl.1.symm) hown (hts _ h1) (hts _ h2) (hts _ h3) (hts _ h4) (by rw [hRf]; exact hk.2.1) (by rw [hRo]; have := pm_cats base b rest; have := hk.2.2; omega) (by omega) (by omega) hd (kk0 rfl la hl hlen)
        · cases hn
    · cases hn
  | _ => simp [pm_nx] at hn
end PMN
