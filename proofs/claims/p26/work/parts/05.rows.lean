/-! what the tables must hold, and the rows of the instructions that touch the memory -/
def pm_okM (Rn : Nat → String) (Ts : List Jvm.Cond) (m : pm_M) : Prop := Jvm.Cond.code (pm_y m) (pm_b m) (pm_l m) (pm_r m) ∈ Ts ∧ plainName (pm_y m).cls = true ∧ Rn (pm_n m) = (pm_y m).cls
def pm_okC (cl : List vw_C) (Rn : Nat → String) (Ts : List Jvm.Cond) (n x : Nat) (q : Nat × pm_M × Nat) : Prop :=
  (q.1 = 3 → Jvm.Cond.methodLink (Rn n) x Jvm.Lib.objectInit ∈ Ts ∧ Jvm.Cond.instanceMethod Jvm.Lib.objectInit ∈ Ts ∧ Jvm.Cond.code Jvm.Lib.objectInit ⟨#[0xb1]⟩ 1 none ∈ Ts) ∧
  (q.1 < 3 → pm_okM Rn Ts q.2.1 ∧ Jvm.Cond.methodLink (Rn n) x (pm_y q.2.1) ∈ Ts ∧ Jvm.Cond.initialized (pm_y q.2.1).cls ∈ Ts ∧ ((pm_y q.2.1).cls ≠ "java/lang/invoke/MethodHandle" ∧ (pm_y q.2.1).cls ≠ "java/lang/invoke/VarHandle" ∧ (parseMethodDescriptor (pm_y q.2.1).desc).map (fun d => d.parameters.length) = some q.2.2)) ∧
  (q.1 = 0 → Jvm.Cond.instanceMethod (pm_y q.2.1) ∈ Ts ∧ Jvm.Cond.selects (pm_y q.2.1).cls (pm_y q.2.1) (pm_y q.2.1) ∈ Ts) ∧
  (q.1 = 1 → Jvm.Cond.static (pm_y q.2.1) ∈ Ts) ∧
  (q.1 = 2 → (pm_y q.2.1).name = "<init>" ∧ Jvm.Cond.instanceMethod (pm_y q.2.1) ∈ Ts ∧ pm_r q.2.1 = none) ∧
  (q.1 = 4 → Jvm.Cond.methodLink (Rn n) x Jvm.Lib.Math.max.name ∈ Ts ∧ Jvm.Cond.static Jvm.Lib.Math.max.name ∈ Ts ∧ Jvm.Cond.initialized "java/lang/Math" ∈ Ts ∧ Jvm.Cond.code Jvm.Lib.Math.max.name Jvm.Lib.Math.max.code 2 (some .int) ∈ Ts) ∧
  (q.1 = 5 → Jvm.Cond.methodLink (Rn n) x Jvm.Lib.Math.min.name ∈ Ts ∧ Jvm.Cond.static Jvm.Lib.Math.min.name ∈ Ts ∧ Jvm.Cond.initialized "java/lang/Math" ∈ Ts ∧ Jvm.Cond.code Jvm.Lib.Math.min.name Jvm.Lib.Math.min.code 2 (some .int) ∈ Ts)
def pm_okK (τ : pm_T) (Rn : Nat → String) (Ts : List Jvm.Cond) (c : Nat) (q : vw_C) : Prop :=
  Rn c = q.1 ∧ (∀ w ∈ u_ws q.1 q.2.1 q.2.2, w ∈ Ts) ∧ (∀ a, a < q.2.2 → ∀ b, b < q.2.2 → a ≠ b → (q.2.1 a).2.1 ≠ (q.2.1 b).2.1) ∧
  ∃ ty : Nat → FieldType, (∀ j, j < q.2.2 → parseFieldDescriptor (q.2.1 j).2.2.1 = some (ty j)) ∧ ∀ j, j < q.2.2 → (pm_ts τ c j = 0 ∧ ty j = .int ∧ (q.2.1 j).2.2.2 = false) ∨ (pm_ts τ c j = 1 ∧ ty j = .boolean ∧ (q.2.1 j).2.2.2 = false) ∨ (pm_ts τ c j = 2 ∧ ((∃ n, ty j = .object n) ∨ ∃ t, ty j = .array t) ∧ (q.2.1 j).2.2.2 = true ∧ (q.2.1 j).1 = q.1)
def pm_ok (τ : pm_T) (cl : List vw_C) (acs : List Nat) (Rn : Nat → String) (Ts : List Jvm.Cond) : Prop :=
  (∀ w ∈ Ts, goodWord w = true) ∧ (∀ c q, cl[c]? = some q → pm_okK τ Rn Ts c q) ∧
  (∀ n x c j, pm_tf τ n x = some (c, j) → ∃ q : vw_C, cl[c]? = some q ∧ j < q.2.2 ∧ Jvm.Cond.fieldLink (Rn n) x (q.2.1 j).1 (q.2.1 j).2.1 (q.2.1 j).2.2.1 ∈ Ts) ∧
  ((∀ n x v, pm_tk τ n x = some v → Jvm.Cond.constant (Rn n) x v ∈ Ts) ∧ ∀ n x v, pm_tq τ n x = some v → Jvm.Cond.constantLong (Rn n) x v ∈ Ts) ∧
  (∀ n x c, pm_tn τ n x = some c → ∃ q : vw_C, cl[c]? = some q ∧ pm_tl τ c = q.2.2 ∧ Jvm.Cond.classLink (Rn n) x q.1 ∈ Ts ∧ Jvm.Cond.instantiable q.1 q.2.2 ∈ Ts ∧ Jvm.Cond.initialized q.1 ∈ Ts) ∧
  (∀ n x c, pm_ta τ n x = some c → c ∈ acs ∧ ∃ q : vw_C, cl[c]? = some q ∧ Jvm.Cond.classLink (Rn n) x q.1 ∈ Ts) ∧
  Jvm.Cond.arrayClass .int ∈ Ts ∧ (∀ c, c ∈ acs → ∃ q : vw_C, cl[c]? = some q) ∧ (∀ n x q, pm_tc τ n x = some q → pm_okC cl Rn Ts n x q)
section PMR
variable {p : Program} {l : Launch} {e : Env} {R : Room} {s : State} {mi : MethodId} {args : Array Value} {below : List Frame} {meth : Method} {c0 : Code} {H : Heap} {locs : List Loc} {cells slots : Nat} {Q : State → Prop}
variable {cc : ByteArray} {pc : Nat} {la : Array Slot} {rest : List Value}
variable {τ : pm_T} {cl : List vw_C} {acs : List Nat} {Rn : Nat → String} {Ts : List Jvm.Cond} {D : va_G} {cA : Nat → ClassId} {base b xl : Nat} {xs : Nat → Int32} {M : pm_H} {n x : Nat}
/-- the walk's state: the picture, the script, what has been written -/
def pm_Rl (τ : pm_T) (cl : List vw_C) (acs : List Nat) (D : va_G) (cA : Nat → ClassId) (base b xl : Nat) (xs : Nat → Int32) (s : State) (M : pm_H) (H : Heap) (locs : List Loc) : Prop :=
  pm_Pic τ cl acs D cA base M H ∧ va_X b xl xs s H ∧ va_S (fun q => base ≤ q) s.heap H locs
theorem pm_X_keep {H' : Heap} {U : State} (h : va_X b xl xs U H) (hb : H'[b]? = H[b]?) : va_X b xl xs U H' := by
  obtain ⟨scr, h1, h2⟩ := h
  exact ⟨scr, hb.trans h1, h2⟩
theorem pm_Rl.put {M' : pm_H} {H' : Heap} {k j : Nat} (h : pm_Rl τ cl acs D cA base b xl xs s M H locs) (hbb : b < base) (hz : H'.size = H.size) (hq : ∀ q, q ≠ base + k → H'[q]? = H[q]?) (h1 : M'.1 = M.1) (hk : ∀ a, pm_k M' a = pm_k M a) (hr : ∀ a, a ≠ k → ∀ j, pm_rs M' a j = pm_rs M a j) (hi : ∀ a, a ≠ k → ∀ j, pm_is M' a j = pm_is M a j) (hat : pm_at τ cl acs D cA base M' H' k) : pm_Rl τ cl acs D cA base b xl xs s M' H' (locs ++ [⟨base + k, j⟩]) :=
  ⟨h.1.put hz hq h1 hk hr hi hat, pm_X_keep h.2.1 (hq b (by omega)), h.2.2.put hz hq (Nat.le_add_right _ _)⟩
theorem pm_Rl.new {H' : Heap} {kind len : Nat} (h : pm_Rl τ cl acs D cA base b xl xs s M H locs) (hbb : b < base) (hz : H'.size = H.size + 1) (hq : ∀ q, q < H.size → H'[q]? = H[q]?) (hat : pm_at τ cl acs D cA base (pm_new M kind len) H' M.1) : pm_Rl τ cl acs D cA base b xl xs s (pm_new M kind len) H' locs :=
  ⟨h.1.new hz hq hat, pm_X_keep h.2.1 (hq b (by rw [h.1.1]; omega)), Nat.le_trans h.2.2.1 (by omega), fun q h1 h2 => (hq q (Nat.lt_of_lt_of_le h1 h.2.2.1)).trans (h.2.2.2.1 q h1 h2), h.2.2.2.2⟩
/-- getfield -/
theorem pm_getW {o c j : Nat} (hx : p.tables.exec = Jvm.exec) (hb : c0.code = cc) (hok : pm_ok τ cl acs Rn Ts) (hts : ∀ w ∈ Ts, w.before args s = true) (hown : s.vm.findClass (Rn n) = some mi.cls) (hK : pm_K cl acs D cA s) (hR : pm_Pic τ cl acs D cA base M H) (hf : pm_tf τ n x = some (c, j)) (hk : (pm_k M o).1 = 2 * c + 2) (hdg : decode cc pc = .ok (.getfield x, 3))
    (kk : W p l e R s mi args below meth c0 H locs cells slots Q (F0 mi (pc + 3) la (pm_sh base b (if pm_ts τ c j = 2 then pm_rv (pm_rs M o j) else .int (pm_is M o j)) :: rest))) : W p l e R s mi args below meth c0 H locs cells slots Q (F0 mi pc la (.ref (base + o) :: rest)) := by
  obtain ⟨q, hq, hj, hlk⟩ := hok.2.2.1 n x c j hf
  obtain ⟨hRn, hin, hnm, ty, hty, -⟩ := hok.2.1 c q hq
  obtain ⟨⟨q', hq', hlen⟩, cell, q1, q2, q3, q4⟩ := (hR.2.2 o).1 c (pm_k M o).2 (by rw [← hk])
  obtain rfl : q' = q := Option.some.inj (hq'.symm.trans hq)
  obtain ⟨hS, hfc, kC, hkC, hkind⟩ := hK.1.1 c _ hq
  obtain ⟨cf, kf, fi, f, hi, hsl⟩ := hS j hj
  have h4 := q4 j (by rw [← hlen]; exact hj)
  refine W.getf hx hb hown (hts _ hlk) hi (u_facts hfc hkC (u_lays hts hin hj) hi).1 q1 (by rw [q3]; exact fun h => by cases h) (v := pm_sh base b (if pm_ts τ c j = 2 then pm_rv (pm_rs M o j) else .int (pm_is M o j))) ?_ rfl rfl hdg kk
  rw [hsl, h4]
  dsimp only
  split
  · rw [pm_sh_rv]
  · rfl
/-- putfield of a number -/
theorem pm_putIW {o c j : Nat} {v : Int32} (hx : p.tables.exec = Jvm.exec) (hb : c0.code = cc) (hok : pm_ok τ cl acs Rn Ts) (hts : ∀ w ∈ Ts, w.before args s = true) (hown : s.vm.findClass (Rn n) = some mi.cls) (hK : pm_K cl acs D cA s) (hbb : b < base) (hR : pm_Rl τ cl acs D cA base b xl xs s M H locs) (hf : pm_tf τ n x = some (c, j)) (hk : (pm_k M o).1 = 2 * c + 2) (hv : pm_ts τ c j = 0 ∨ (pm_ts τ c j = 1 ∧ (v = 0 ∨ v = 1))) (hdg : decode cc pc = .ok (.putfield x, 3))
    (kk : ∀ (H1 : Heap) (locs1 : List Loc), pm_Rl τ cl acs D cA base b xl xs s (pm_setI M o j v) H1 locs1 → W p l e R s mi args below meth c0 H1 locs1 cells slots Q (F0 mi (pc + 3) la rest)) : W p l e R s mi args below meth c0 H locs cells slots Q (F0 mi pc la (.int v :: .ref (base + o) :: rest)) := by
  obtain ⟨q, hq, hj, hlk⟩ := hok.2.2.1 n x c j hf
  obtain ⟨hRn, hin, hnm, ty, hty, hso⟩ := hok.2.1 c q hq
  have hke : pm_k M o = (2 * c + 2, (pm_k M o).2) := by rw [← hk]
  obtain ⟨⟨q', hq', hlen⟩, cell, q1, q2, q3, q4⟩ := (hR.1.2.2 o).1 c (pm_k M o).2 hke
  obtain rfl : q' = q := Option.some.inj (hq'.symm.trans hq)
  obtain ⟨C, T, N⟩ := q'
  have hap := va_apart (own := Rn n) hts hin ty hty hnm hK.1 hq
  obtain ⟨hS, hfc, kC, hkC, hkind⟩ := hK.1.1 c _ hq
  obtain ⟨cf, kf, fi, f, hi, hsl⟩ := hS j hj
  dsimp only at hj hlen hin hnm hty hso hi hlk
  have hfin : (T j).2.2.2 = false := by
    rcases hso j hj with ⟨-, -, h⟩ | ⟨-, -, h⟩ | ⟨h2, -⟩
    · exact h
    · exact h
    · rcases hv with h | ⟨h, -⟩ <;> rw [h2] at h <;> cases h
  have hn : narrow (ty j) (.int v) = .int v ∧ fits (ty j) (.int v) = true := by
    rcases hso j hj with ⟨-, h, -⟩ | ⟨h1, h, -⟩ | ⟨h2, -⟩
    · rw [h]; exact ⟨rfl, rfl⟩
    · rw [h]
      rcases hv with h' | ⟨-, h'⟩
      · rw [h1] at h'; cases h'
      · rcases h' with rfl | rfl <;> exact ⟨by decide, by decide⟩
    · rcases hv with h | ⟨h, -⟩ <;> rw [h2] at h <;> cases h
  have hlay := hts _ (hin _ (u_in_lay hj))
  unfold u_lay at hlay
  rw [if_neg (by rw [hfin]; decide)] at hlay
  have hst := (u_facts hfc hkC (u_lays hts hin hj) hi).1
  have h6 := u_store hfc hkC hkind hlay hi (hty j hj) hn.1 hn.2
  have hjl : j < (pm_k M o).2 := by rw [← hlen]; exact hj
  refine W.putK hx hb (f := f) ⟨hown, hts _ hlk, ⟨_, _, _, hi⟩, hst⟩ (by rw [q2]; exact h6) q1 q3 (by rw [hsl]; exact k2_hasslot (q4 j hjl)) rfl rfl hdg fun H' e1 e2 e3 => ?_
  rw [hsl] at e1 ⊢
  refine kk H' _ (hR.put hbb e2 e3 rfl (fun _ => rfl) (fun _ _ _ => rfl) (fun a ha i => ?_) ⟨fun c' n' he => ?_, fun n' he => ?_, fun c' n' he => ?_⟩)
  · show pm_u2 _ _ _ _ _ _ = _
    unfold pm_u2
    rw [if_neg (fun h => ha h.1)]; rfl
  · have he : pm_k M o = (2 * c' + 2, n') := he
    obtain rfl : c' = c := by rw [he] at hk; dsimp only at hk; omega
    obtain rfl : n' = (pm_k M o).2 := by rw [he]
    refine ⟨⟨_, hq, hlen⟩, _, e1, q2, q3, fun i hi' => ?_⟩
    rw [t_set q4 (by rw [← hlen]; exact hap) hjl (.int v) i hi']
    unfold updV
    dsimp only
    by_cases hij : i = j
    · subst hij
      rw [if_pos rfl]
      have h0 : ¬ pm_ts τ c' i = 2 := by rcases hv with h | ⟨h, -⟩ <;> rw [h] <;> decide
      rw [if_neg h0]
      show _ = some (Value.int (pm_u2 _ _ _ _ _ _))
      unfold pm_u2
      rw [if_pos ⟨rfl, rfl⟩]
    · rw [if_neg hij]
      have h0 : pm_is (pm_setI M o j v) o i = pm_is M o i := by
        show pm_u2 _ _ _ _ _ _ = _
        unfold pm_u2
        rw [if_neg (fun h => hij h.2)]; rfl
      rw [h0]
      rfl
  · have he : pm_k M o = (1, n') := he
    rw [he] at hk; dsimp only at hk; omega
  · have he : pm_k M o = (2 * c' + 3, n') := he
    rw [he] at hk; dsimp only at hk; omega
/-- putfield of a final reference, in a constructor -/
theorem pm_putRW {o c j v : Nat} (hx : p.tables.exec = Jvm.exec) (hb : c0.code = cc) (hok : pm_ok τ cl acs Rn Ts) (hts : ∀ w ∈ Ts, w.before args s = true) (hown : s.vm.findClass (Rn n) = some mi.cls) (hname : meth.name = "<init>") (hnc : n = c) (hK : pm_K cl acs D cA s) (hbb : b < base) (hR : pm_Rl τ cl acs D cA base b xl xs s M H locs) (hf : pm_tf τ n x = some (c, j)) (hk : (pm_k M o).1 = 2 * c + 2) (hv : pm_ts τ c j = 2) (hdg : decode cc pc = .ok (.putfield x, 3))
    (kk : ∀ (H1 : Heap) (locs1 : List Loc), pm_Rl τ cl acs D cA base b xl xs s (pm_setR M o j (some v)) H1 locs1 → W p l e R s mi args below meth c0 H1 locs1 cells slots Q (F0 mi (pc + 3) la rest)) : W p l e R s mi args below meth c0 H locs cells slots Q (F0 mi pc la (.ref (base + v) :: .ref (base + o) :: rest)) := by
  obtain ⟨q, hq, hj, hlk⟩ := hok.2.2.1 n x c j hf
  obtain ⟨hRn, hin, hnm, ty, hty, hso⟩ := hok.2.1 c q hq
  have hke : pm_k M o = (2 * c + 2, (pm_k M o).2) := by rw [← hk]
  obtain ⟨⟨q', hq', hlen⟩, cell, q1, q2, q3, q4⟩ := (hR.1.2.2 o).1 c (pm_k M o).2 hke
  obtain rfl : q' = q := Option.some.inj (hq'.symm.trans hq)
  obtain ⟨C, T, N⟩ := q'
  have hap := va_apart (own := Rn n) hts hin ty hty hnm hK.1 hq
  obtain ⟨hS, hfc, kC, hkC, hkind⟩ := hK.1.1 c _ hq
  obtain ⟨cf, kf, fi, f, hi, hsl⟩ := hS j hj
  dsimp only at hj hlen hin hnm hty hso hi hlk hRn
  obtain ⟨hrt, hfin, hdecl⟩ : ((∃ n, ty j = .object n) ∨ ∃ t, ty j = .array t) ∧ (T j).2.2.2 = true ∧ (T j).1 = C := by
    rcases hso j hj with ⟨h, -, -⟩ | ⟨h, -, -⟩ | ⟨-, h⟩
    · rw [hv] at h; cases h
    · rw [hv] at h; cases h
    · exact h
  have hn : narrow (ty j) (.ref (base + v)) = .ref (base + v) ∧ fits (ty j) (.ref (base + v)) = true := by
    rcases hrt with ⟨z, h⟩ | ⟨z, h⟩ <;> rw [h] <;> exact ⟨rfl, rfl⟩
  have hlay := hts _ (hin _ (u_in_lay hj))
  unfold u_lay at hlay
  rw [if_pos hfin] at hlay
  have hst := (u_facts hfc hkC (u_lays hts hin hj) hi).1
  have hcf : mi.cls = cf := by
    obtain ⟨_, _, c', _, _, _, -, -, hf', -, -, -, hown2, -⟩ := Jvm.Cond.laysFinal_spec hlay
    have e1 : c' = cf := by have := hi.symm.trans hf'; simp at this; exact this.1.symm
    rw [hdecl, ← hRn, ← hnc] at hown2
    rw [← e1]; exact Option.some.inj (hown.symm.trans hown2)
  have h6 := u_fits hfc hkC hkind (Or.inr hlay) hi (hty j hj) hn.1 hn.2
  have hjl : j < (pm_k M o).2 := by rw [← hlen]; exact hj
  refine W.putFinK hx hb hown (hts _ hlk) hi hst hcf hname (by rw [q2]; exact h6) q1 q3 (by rw [hsl]; exact k2_hasslot (q4 j hjl)) rfl rfl hdg fun H' e1 e2 e3 => ?_
  rw [hsl] at e1 ⊢
  refine kk H' _ (hR.put hbb e2 e3 rfl (fun _ => rfl) (fun a ha i => ?_) (fun _ _ _ => rfl) ⟨fun c' n' he => ?_, fun n' he => ?_, fun c' n' he => ?_⟩)
  · show pm_u2 _ _ _ _ _ _ = _
    unfold pm_u2
    rw [if_neg (fun h => ha h.1)]; rfl
  · have he : pm_k M o = (2 * c' + 2, n') := he
    obtain rfl : c' = c := by rw [he] at hk; dsimp only at hk; omega
    obtain rfl : n' = (pm_k M o).2 := by rw [he]
    refine ⟨⟨_, hq, hlen⟩, _, e1, q2, q3, fun i hi' => ?_⟩
    rw [t_set q4 (by rw [← hlen]; exact hap) hjl (.ref (base + v)) i hi']
    unfold updV
    dsimp only
    by_cases hij : i = j
    · subst hij
      rw [if_pos rfl, if_pos hv]
      have h0 : pm_rs (pm_setR M o i (some v)) o i = some v := by
        show pm_u2 _ _ _ _ _ _ = _
        unfold pm_u2
        rw [if_pos ⟨rfl, rfl⟩]
      rw [h0]; rfl
    · rw [if_neg hij]
      have h0 : pm_rs (pm_setR M o j (some v)) o i = pm_rs M o i := by
        show pm_u2 _ _ _ _ _ _ = _
        unfold pm_u2
        rw [if_neg (fun h => hij h.2)]; rfl
      rw [h0]
      rfl
  · have he : pm_k M o = (1, n') := he
    rw [he] at hk; dsimp only at hk; omega
  · have he : pm_k M o = (2 * c' + 3, n') := he
    rw [he] at hk; dsimp only at hk; omega
/-- iaload -/
theorem pm_ialdW {o : Nat} {i : Int32} (hx : p.tables.exec = Jvm.exec) (hb : c0.code = cc) (hK : pm_K cl acs D cA s) (hR : pm_Pic τ cl acs D cA base M H) (hk : (pm_k M o).1 = 1) (hin : ¬ (i < 0 ∨ (pm_k M o).2 ≤ i.toNatClampNeg)) (hdg : decode cc pc = .ok (.iaload, 1))
    (kk : W p l e R s mi args below meth c0 H locs cells slots Q (F0 mi (pc + 1) la (.int (pm_is M o i.toNatClampNeg) :: rest))) : W p l e R s mi args below meth c0 H locs cells slots Q (F0 mi pc la (.int i :: .ref (base + o) :: rest)) := by
  have hat := (hR.2.2 o).2.1 (pm_k M o).2 (by rw [← hk])
  have hlt : i.toNatClampNeg < (pm_k M o).2 := Nat.not_le.mp fun q => hin (Or.inr q)
  exact W.iald (v := .int (pm_is M o i.toNatClampNeg)) hx hb hat (hK.2.1.1 _ _) (fun q => by cases q) (by rw [arrV_size]; exact hin) (by rw [arrV_read _ _ hlt]) rfl rfl hdg kk
theorem pm_alenW {o : Nat} (hx : p.tables.exec = Jvm.exec) (hb : c0.code = cc) (hK : pm_K cl acs D cA s) (hR : pm_Pic τ cl acs D cA base M H) (hk : (pm_k M o).1 = 1) (hdg : decode cc pc = .ok (.arraylength, 1))
    (kk : W p l e R s mi args below meth c0 H locs cells slots Q (F0 mi (pc + 1) la (.int (Int32.ofNat (pm_k M o).2) :: rest))) : W p l e R s mi args below meth c0 H locs cells slots Q (F0 mi pc la (.ref (base + o) :: rest)) := by
  have hat := (hR.2.2 o).2.1 (pm_k M o).2 (by rw [← hk])
  exact W.alen (n := Int32.ofNat (pm_k M o).2) hx hb hat (hK.2.1.1 _ _) (by rw [arrV_size] <;> rfl) rfl rfl hdg kk
/-- iastore -/
theorem pm_iastW {o : Nat} {i v : Int32} (hx : p.tables.exec = Jvm.exec) (hb : c0.code = cc) (hK : pm_K cl acs D cA s) (hbb : b < base) (hR : pm_Rl τ cl acs D cA base b xl xs s M H locs) (hk : (pm_k M o).1 = 1) (hin : ¬ (i < 0 ∨ (pm_k M o).2 ≤ i.toNatClampNeg)) (hdg : decode cc pc = .ok (.iastore, 1))
    (kk : ∀ (H1 : Heap) (locs1 : List Loc), pm_Rl τ cl acs D cA base b xl xs s (pm_setI M o i.toNatClampNeg v) H1 locs1 → W p l e R s mi args below meth c0 H1 locs1 cells slots Q (F0 mi (pc + 1) la rest)) : W p l e R s mi args below meth c0 H locs cells slots Q (F0 mi pc la (.int v :: .int i :: .ref (base + o) :: rest)) := by
  have hat := (hR.1.2.2 o).2.1 (pm_k M o).2 (by rw [← hk])
  refine W.iast hx hb hat (hK.2.1.1 _ _) (fun q => by cases q) (by rw [arrV_size]; exact hin) rfl rfl hdg fun H' e z oq => ?_
  refine kk H' _ (hR.put hbb z oq rfl (fun _ => rfl) (fun _ _ _ => rfl) (fun a ha j => ?_) ⟨fun c' n' he => ?_, fun n' he => ?_, fun c' n' he => ?_⟩)
  · show pm_u2 _ _ _ _ _ _ = _
    unfold pm_u2
    rw [if_neg (fun h => ha h.1)]; rfl
  · have he : pm_k M o = (2 * c' + 2, n') := he
    rw [he] at hk; dsimp only at hk; omega
  · have he : pm_k M o = (1, n') := he
    obtain rfl : n' = (pm_k M o).2 := by rw [he]
    rw [e, arrV_store]
    refine congrArg some (congrArg (arrV _ _) (funext fun j => ?_))
    show updV _ _ _ _ = Value.int (pm_u2 _ _ _ _ _ _)
    unfold updV pm_u2
    by_cases hj : j = i.toNatClampNeg
    · rw [if_pos hj, if_pos ⟨rfl, hj⟩]
    · rw [if_neg hj, if_neg (fun h => hj h.2)]; rfl
  · have he : pm_k M o = (2 * c' + 3, n') := he
    rw [he] at hk; dsimp only at hk; omega
/-- aaload -/
theorem pm_aaldW {o c : Nat} {i : Int32} (hx : p.tables.exec = Jvm.exec) (hb : c0.code = cc) (hok : pm_ok τ cl acs Rn Ts) (hK : pm_K cl acs D cA s) (hR : pm_Pic τ cl acs D cA base M H) (hk : (pm_k M o).1 = 2 * c + 3) (hin : ¬ (i < 0 ∨ (pm_k M o).2 ≤ i.toNatClampNeg)) (hdg : decode cc pc = .ok (.aaload, 1))
    (kk : W p l e R s mi args below meth c0 H locs cells slots Q (F0 mi (pc + 1) la (pm_sh base b (pm_rv (pm_rs M o i.toNatClampNeg)) :: rest))) : W p l e R s mi args below meth c0 H locs cells slots Q (F0 mi pc la (.int i :: .ref (base + o) :: rest)) := by
  obtain ⟨hac, hat⟩ := (hR.2.2 o).2.2 c (pm_k M o).2 (by rw [← hk])
  obtain ⟨q, hq⟩ := hok.2.2.2.2.2.2.2.1 c hac
  have hlt : i.toNatClampNeg < (pm_k M o).2 := Nat.not_le.mp fun q => hin (Or.inr q)
  rw [pm_sh_rv] at kk
  exact W.aald (v := va_rf ((pm_rs M o i.toNatClampNeg).map (fun o => base + o))) (ty := .object q.1) hx hb hat ((hK.2.2 c hac q hq).1.1 _ _) rfl (fun q => by cases q) (by rw [arrV_size]; exact hin) (by rw [arrV_read _ _ hlt]) rfl rfl hdg kk
/-- aastore -/
theorem pm_aastW {o c v : Nat} {i : Int32} (hx : p.tables.exec = Jvm.exec) (hb : c0.code = cc) (hok : pm_ok τ cl acs Rn Ts) (hK : pm_K cl acs D cA s) (hbb : b < base) (hR : pm_Rl τ cl acs D cA base b xl xs s M H locs) (hk : (pm_k M o).1 = 2 * c + 3) (hin : ¬ (i < 0 ∨ (pm_k M o).2 ≤ i.toNatClampNeg)) (hv : (pm_k M v).1 = 2 * c + 2) (hdg : decode cc pc = .ok (.aastore, 1))
    (kk : ∀ (H1 : Heap) (locs1 : List Loc), pm_Rl τ cl acs D cA base b xl xs s (pm_setR M o i.toNatClampNeg (some v)) H1 locs1 → W p l e R s mi args below meth c0 H1 locs1 cells slots Q (F0 mi (pc + 1) la rest)) : W p l e R s mi args below meth c0 H locs cells slots Q (F0 mi pc la (.ref (base + v) :: .int i :: .ref (base + o) :: rest)) := by
  obtain ⟨hac, hat⟩ := (hR.1.2.2 o).2.2 c (pm_k M o).2 (by rw [← hk])
  obtain ⟨q, hq⟩ := hok.2.2.2.2.2.2.2.1 c hac
  have hlt : i.toNatClampNeg < (pm_k M o).2 := Nat.not_le.mp fun q => hin (Or.inr q)
  have h0 : ¬ i < 0 := fun q => hin (Or.inl q)
  obtain ⟨-, cellV, g1, g2, g3, -⟩ := (hR.1.2.2 v).1 c (pm_k M v).2 (by rw [← hv])
  have hcls := (hK.1.1 c q hq).2
  obtain ⟨kA, comp, k1, k2, k3, -⟩ := (hK.2.2 c hac q hq).1.2
  obtain rfl : comp = D.1 c := Option.some.inj (k3.symm.trans hcls.1)
  have hclsA := hcls
  obtain ⟨-, kC, hkC, -⟩ := hcls
  refine W.aast hx hb hat (fun q h => by cases h) (fun h => by cases h) k1 k2 rfl hkC ⟨h0, by rw [arrV_size]; exact hlt⟩ g1 (fun q h => by rw [g3] at h; cases h) (by rw [g2]; exact hkC) (by rw [g2]; exact va_assign hclsA) rfl rfl hdg fun H' e z oq => ?_
  refine kk H' _ (hR.put hbb z oq rfl (fun _ => rfl) (fun a ha j => ?_) (fun _ _ _ => rfl) ⟨fun c' n' he => ?_, fun n' he => ?_, fun c' n' he => ?_⟩)
  · show pm_u2 _ _ _ _ _ _ = _
    unfold pm_u2
    rw [if_neg (fun h => ha h.1)]; rfl
  · have he : pm_k M o = (2 * c' + 2, n') := he
    rw [he] at hk; dsimp only at hk; omega
  · have he : pm_k M o = (1, n') := he
    rw [he] at hk; dsimp only at hk; omega
  · have he : pm_k M o = (2 * c' + 3, n') := he
    obtain rfl : c' = c := by rw [he] at hk; dsimp only at hk; omega
    obtain rfl : n' = (pm_k M o).2 := by rw [he]
    refine ⟨hac, ?_⟩
    rw [e, arrV_store]
    refine congrArg some (congrArg (arrV _ _) (funext fun j => ?_))
    show updV _ _ _ _ = va_rf (Option.map _ (pm_u2 _ _ _ _ _ _))
    unfold updV pm_u2
    by_cases hj : j = i.toNatClampNeg
    · rw [if_pos hj, if_pos ⟨rfl, hj⟩]; rfl
    · rw [if_neg hj, if_neg (fun h => hj h.2)]; rfl
/-- new -/
theorem pm_newW {c : Nat} (hx : p.tables.exec = Jvm.exec) (hb : c0.code = cc) (hok : pm_ok τ cl acs Rn Ts) (hts : ∀ w ∈ Ts, w.before args s = true) (hown : s.vm.findClass (Rn n) = some mi.cls) (hK : pm_K cl acs D cA s) (hbb : b < base) (hR : pm_Rl τ cl acs D cA base b xl xs s M H locs) (hn : pm_tn τ n x = some c) (hcells : cells + 1 ≤ R.cells) (hslots : slots + pm_tl τ c ≤ R.slots) (hdg : decode cc pc = .ok (.new x, 3))
    (kk : ∀ H1 : Heap, pm_Rl τ cl acs D cA base b xl xs s (pm_new M (2 * c + 2) (pm_tl τ c)) H1 locs → W p l e R s mi args below meth c0 H1 locs (cells + 1) (slots + pm_tl τ c) Q (F0 mi (pc + 3) la (.ref (base + M.1) :: rest))) : W p l e R s mi args below meth c0 H locs cells slots Q (F0 mi pc la rest) := by
  obtain ⟨q, hq, hl, h1, h2, h3⟩ := hok.2.2.2.2.1 n x c hn
  obtain ⟨hRn, hin, hnm, ty, hty, hso⟩ := hok.2.1 c q hq
  have hKn := hK.1.1 c _ hq
  rw [hl] at hslots kk
  refine W.newcK hx hb hown (hts _ h1) (hts _ h2) (hts _ h3) rfl hdg hcells hslots hKn.2.1 hR.1.1 fun H1 kC hkC e1 z1 o1 => ?_
  refine kk H1 (hR.new hbb (by rw [z1, hR.1.1]) (fun q hq => o1 q (by rw [← hR.1.1]; exact hq)) ⟨fun c' n' he => ?_, fun n' he => ?_, fun c' n' he => ?_⟩)
  · rw [pm_new_k, if_pos rfl] at he
    have he1 : 2 * c + 2 = 2 * c' + 2 := congrArg Prod.fst he
    have he2 : q.2.2 = n' := congrArg Prod.snd he
    obtain rfl : c' = c := by omega
    subst he2
    refine ⟨⟨q, hq, rfl⟩, (u_born ty hts hin hKn hkC e1 hty).to fun j hj => ?_⟩
    rw [pm_new_r, if_pos rfl, pm_new_i, if_pos rfl]
    rcases hso j hj with ⟨h, h', -⟩ | ⟨h, h', -⟩ | ⟨h, h', -⟩
    · rw [h, h']; rfl
    · rw [h, h']; rfl
    · rw [if_pos h]
      rcases h' with ⟨z, h'⟩ | ⟨z, h'⟩ <;> rw [h'] <;> rfl
  · rw [pm_new_k, if_pos rfl] at he
    cases he
  · rw [pm_new_k, if_pos rfl] at he
    have : 2 * c + 2 = 2 * c' + 3 := congrArg Prod.fst he
    omega
/-- newarray of ints -/
theorem pm_newaW {i : Int32} (hx : p.tables.exec = Jvm.exec) (hb : c0.code = cc) (hok : pm_ok τ cl acs Rn Ts) (hts : ∀ w ∈ Ts, w.before args s = true) (hK : pm_K cl acs D cA s) (hbb : b < base) (hR : pm_Rl τ cl acs D cA base b xl xs s M H locs) (hn : ¬ i < 0) (hN : i.toNatClampNeg ≤ 100000) (hcells : cells + 1 ≤ R.cells) (hslots : slots + i.toNatClampNeg ≤ R.slots) (hdg : decode cc pc = .ok (.newarray .int, 2))
    (kk : ∀ H1 : Heap, pm_Rl τ cl acs D cA base b xl xs s (pm_new M 1 i.toNatClampNeg) H1 locs → W p l e R s mi args below meth c0 H1 locs (cells + 1) (slots + i.toNatClampNeg) Q (F0 mi (pc + 2) la (.ref (base + M.1) :: rest))) : W p l e R s mi args below meth c0 H locs cells slots Q (F0 mi pc la (.int i :: rest)) := by
  refine va_newaK (atype := .int) hx hb (hts _ hok.2.2.2.2.2.2.1) rfl hdg rfl hn rfl (by show _ * 4 ≤ _; omega) hcells hslots hR.1.1 fun H1 c e1 z1 o1 hAr hNm => ?_
  have hc : c = cA 1 := Option.some.inj (hNm.symm.trans hK.2.1.2)
  refine kk H1 (hR.new hbb (by rw [z1, hR.1.1]) (fun q hq => o1 q (by rw [← hR.1.1]; exact hq)) ⟨fun c' n' he => ?_, fun n' he => ?_, fun c' n' he => ?_⟩)
  · rw [pm_new_k, if_pos rfl] at he
    have : 1 = 2 * c' + 2 := congrArg Prod.fst he
    omega
  · rw [pm_new_k, if_pos rfl] at he
    cases he
    rw [e1, hc]
    refine congrArg some (congrArg (arrV _ _) (funext fun j => ?_))
    rw [pm_new_i, if_pos rfl]
    rfl
  · rw [pm_new_k, if_pos rfl] at he
    have : 1 = 2 * c' + 3 := congrArg Prod.fst he
    omega
/-- anewarray -/
theorem pm_anewW {c : Nat} {i : Int32} (hx : p.tables.exec = Jvm.exec) (hb : c0.code = cc) (hok : pm_ok τ cl acs Rn Ts) (hts : ∀ w ∈ Ts, w.before args s = true) (hown : s.vm.findClass (Rn n) = some mi.cls) (hK : pm_K cl acs D cA s) (hbb : b < base) (hR : pm_Rl τ cl acs D cA base b xl xs s M H locs) (ha : pm_ta τ n x = some c) (hn : ¬ i < 0) (hN : i.toNatClampNeg ≤ 100000) (hcells : cells + 1 ≤ R.cells) (hslots : slots + i.toNatClampNeg ≤ R.slots) (hdg : decode cc pc = .ok (.anewarray x, 3))
    (kk : ∀ H1 : Heap, pm_Rl τ cl acs D cA base b xl xs s (pm_new M (2 * c + 3) i.toNatClampNeg) H1 locs → W p l e R s mi args below meth c0 H1 locs (cells + 1) (slots + i.toNatClampNeg) Q (F0 mi (pc + 3) la (.ref (base + M.1) :: rest))) : W p l e R s mi args below meth c0 H locs cells slots Q (F0 mi pc la (.int i :: rest)) := by
  obtain ⟨hac, q, hq, h1⟩ := hok.2.2.2.2.2.1 n x c ha
  obtain ⟨⟨hAr, hRA⟩, hAO⟩ := hK.2.2 c hac q hq
  obtain ⟨kA', comp', k1, k2, k3, k4⟩ := hRA
  refine W.anew hx hb hown (hts _ h1) (va_AO.use hAO) rfl hdg rfl hn (by omega) hcells hslots fun ca kA comp f1 f2 f3 f4 => ?_
  have hc : ca = cA (2 * c + 3) := Option.some.inj (f1.symm.trans k4)
  generalize hH1 : H.push ({ cls := ca, slots := Array.replicate i.toNatClampNeg .null, vm := .none } : Cell) = H1
  have z1 : H1.size = H.size + 1 := by rw [← hH1, Array.size_push]
  have e1 : H1[H.size]? = some (arrV ca i.toNatClampNeg (fun _ => .null)) := by rw [← hH1, Array.getElem?_push_size, ← arrV_new]
  have o1 : ∀ q : Nat, q < H.size → H1[q]? = H[q]? := fun q hq => by rw [← hH1, Array.getElem?_push, if_neg (Nat.ne_of_lt hq)]
  have hat : pm_at τ cl acs D cA base (pm_new M (2 * c + 3) i.toNatClampNeg) H1 M.1 := by
    refine ⟨fun c' n' he => ?_, fun n' he => ?_, fun c' n' he => ?_⟩
    · rw [pm_new_k, if_pos rfl] at he
      have : 2 * c + 3 = 2 * c' + 2 := congrArg Prod.fst he
      omega
    · rw [pm_new_k, if_pos rfl] at he
      have : 2 * c + 3 = 1 := congrArg Prod.fst he
      omega
    · rw [pm_new_k, if_pos rfl] at he
      have he1 : 2 * c + 3 = 2 * c' + 3 := congrArg Prod.fst he
      have he2 : i.toNatClampNeg = n' := congrArg Prod.snd he
      obtain rfl : c' = c := by omega
      subst he2
      refine ⟨hac, ?_⟩
      rw [← hR.1.1, e1, hc]
      refine congrArg some (congrArg (arrV _ _) (funext fun j => ?_))
      rw [pm_new_r, if_pos rfl]
      rfl
  have kk1 := kk H1 (hR.new hbb z1 o1 hat)
  rw [← hR.1.1] at kk1
  exact kk1
end PMR
