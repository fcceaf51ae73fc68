/-! calls: a contract out of a run of the pure machine; the whole run -/
theorem pm_nx_mono {τ : pm_T} {m : pm_M} {xl : Nat} {xs : Nat → Int32} {pc pc' : Nat} {ls ls' : pm_L} {st st' : List Value} {M M' : pm_H} {i : Instr} (h : pm_nx τ m xl xs pc ls st M i = some (pc', ls', st', M')) : M.1 ≤ M'.1 ∧ M.2.1 ≤ M'.2.1 := by
  have key : (M = M' ∨ (∃ k j v, pm_setI M k j v = M') ∨ (∃ k j v, pm_setR M k j v = M') ∨ ∃ k n, pm_new M k n = M') → M.1 ≤ M'.1 ∧ M.2.1 ≤ M'.2.1 := by
    rintro (rfl | ⟨k, j, v, rfl⟩ | ⟨k, j, v, rfl⟩ | ⟨k, n, rfl⟩)
    · exact ⟨Nat.le_refl _, Nat.le_refl _⟩
    · exact ⟨Nat.le_refl _, Nat.le_refl _⟩
    · exact ⟨Nat.le_refl _, Nat.le_refl _⟩
    · exact ⟨Nat.le_succ _, Nat.le_add_right _ _⟩
  apply key
  clear key
  unfold pm_nx at h
  split at h <;> (try simp only [Option.bind_eq_some_iff, Option.some.injEq, Prod.mk.injEq] at h) <;> first
    | (cases h; done)
    | exact Or.inl h.2.2.2
    | (obtain ⟨_, _, h⟩ := h; first
        | exact Or.inl h.2.2.2
        | exact Or.inr (Or.inr (Or.inr ⟨_, _, h.2.2.2⟩))
        | (repeat' split at h) <;> first
            | (cases h; done)
            | (simp only [Option.some.injEq, Prod.mk.injEq] at h; first
                | exact Or.inl h.2.2.2
                | exact Or.inr (Or.inl ⟨_, _, _, h.2.2.2⟩)
                | exact Or.inr (Or.inr (Or.inl ⟨_, _, _, h.2.2.2⟩))
                | exact Or.inr (Or.inr (Or.inr ⟨_, _, h.2.2.2⟩))))
    | ((repeat' split at h) <;> (try simp only [Option.bind_eq_some_iff, Option.some.injEq, Prod.mk.injEq] at h) <;> first
        | (cases h; done)
        | exact Or.inl h.2.2.2
        | exact Or.inr (Or.inl ⟨_, _, _, h.2.2.2⟩)
        | exact Or.inr (Or.inr (Or.inl ⟨_, _, _, h.2.2.2⟩))
        | exact Or.inr (Or.inr (Or.inr ⟨_, _, h.2.2.2⟩))
        | (obtain ⟨_, _, h⟩ := h; exact Or.inl h.2.2.2)
        | (obtain ⟨_, _, _, _, h⟩ := h; exact Or.inl h.2.2.2))
theorem pm_run_mono {τ : pm_T} {xl : Nat} {xs : Nat → Int32} (n : Nat) : ∀ {m : pm_M} {pc : Nat} {ls : pm_L} {st : List Value} {M : pm_H} {r : Option Value × pm_H}, pm_run τ xl xs n m pc ls st M = some r → M.1 ≤ r.2.1 ∧ M.2.1 ≤ r.2.2.1 := by
  induction n with
  | zero => intro m pc ls st M r h; simp [pm_run] at h
  | succ n ih =>
    intro m pc ls st M r h
    rw [pm_run] at h
    split at h
    · cases h
    · split at h
      · cases h
      · split at h
        · split at h
          · cases h
          · rename_i hr
            have h1 := ih hr
            have h2 := ih h
            exact ⟨Nat.le_trans h1.1 h2.1, Nat.le_trans h1.2 h2.2⟩
        · split at h
          · cases h; exact ⟨Nat.le_refl _, Nat.le_refl _⟩
          · split at h
            · cases h
            · rename_i hx
              have h1 := pm_nx_mono hx
              have h2 := ih h
              exact ⟨Nat.le_trans h1.1 h2.1, Nat.le_trans h1.2 h2.2⟩
section PMC
variable {τ : pm_T} {cl : List vw_C} {acs : List Nat} {Rn : Nat → String} {Ts : List Jvm.Cond} {xl : Nat} {xs : Nat → Int32} {l : Launch}
/-- runs of n steps are the real machine's -/
def pm_S (τ : pm_T) (cl : List vw_C) (acs : List Nat) (Rn : Nat → String) (Ts : List Jvm.Cond) (xl : Nat) (xs : Nat → Int32) (l : Launch) (n : Nat) : Prop :=
  ∀ {p : Program} {e : Env} {R : Room} {s : State} {mi : MethodId} {args : Array Value} {below : List Frame} {meth : Method} {c0 : Code} {H : Heap} {locs : List Loc} {cells slots : Nat} {Q : State → Prop} {la : Array Slot} {D : va_G} {cA : Nat → ClassId} {base b : Nat} {m : pm_M} {pc : Nat} {ls : pm_L} {st : List Value} {M Mf : pm_H} {r : Option Value},
    p.tables.exec = Jvm.exec → c0.code = pm_b m → (∀ w ∈ Ts, w.before args s = true) → s.vm.findClass (Rn (pm_n m)) = some mi.cls → ((pm_y m).name = "<init>" → meth.name = "<init>") → c0.maxLocals = pm_l m → R.frames = pm_f m → R.locals = pm_o m → pm_K cl acs D cA s → b < base →
    pm_run τ xl xs n m pc ls st M = some (r, Mf) → pm_Rl τ cl acs D cA base b xl xs s M H locs → lv_has la (pm_l m) (pm_as (pm_w m) base b ls) → ls.length = pm_l m → cells + (Mf.1 - M.1) ≤ R.cells → slots + (Mf.2.1 - M.2.1) ≤ R.slots →
    (∀ (H1 : Heap) (locs1 : List Loc) (la1 : Array Slot) (pc1 : Nat) (i : Instr) (st1 : List Value), pm_Rl τ cl acs D cA base b xl xs s Mf H1 locs1 → decode (pm_b m) pc1 = .ok (i, 1) → pm_rt m st1 i = some r → W p l e R s mi args below meth c0 H1 locs1 (cells + (Mf.1 - M.1)) (slots + (Mf.2.1 - M.2.1)) Q (F0 mi pc1 la1 (st1.map (pm_sh base b)))) →
    W p l e R s mi args below meth c0 H locs cells slots Q (F0 mi pc la (st.map (pm_sh base b)))
def pm_P (τ : pm_T) (cl : List vw_C) (acs : List Nat) (D : va_G) (cA : Nat → ClassId) (base b xl : Nat) (xs : Nat → Int32) (vs : List Value) (M : pm_H) : Array Value → State → Prop :=
  fun v U => v = (vs.map (pm_sh base b)).toArray ∧ pm_Pic τ cl acs D cA base M U.heap ∧ va_X b xl xs U U.heap ∧ pm_K cl acs D cA U
def pm_Q (τ : pm_T) (cl : List vw_C) (acs : List Nat) (D : va_G) (cA : Nat → ClassId) (base b : Nat) (r : Option Value) (Mf : pm_H) : Array Value → State → Outcome → State → Prop :=
  fun _ st oc t => oc = .returned (r.map (pm_sh base b)) ∧ pm_Pic τ cl acs D cA base Mf t.heap ∧ va_F (fun q => base ≤ q) st t
theorem pm_blind {D : va_G} {cA : Nat → ClassId} {base b : Nat} {vs : List Value} {M : pm_H} : FrameBlind (pm_P τ cl acs D cA base b xl xs vs M) :=
  fun _ U g mk h => ⟨h.1, h.2.1, va_X.moved (u := U) (U := U.calling g mk _) (Vm.Alike.refl U.vm) h.2.2.1, pm_K.moved (u := U) (U := U.calling g mk _) (Vm.Alike.refl U.vm) h.2.2.2⟩
theorem pm_goodIn (hok : pm_ok τ cl acs Rn Ts) {ws : List Jvm.Cond} (h : ∀ w ∈ ws, w ∈ Ts) : GoodIn Ts ws := fun w hw => ⟨h w hw, good_of_word (hok.1 w (h w hw))⟩
theorem pm_met {n : Nat} (hS : pm_S τ cl acs Rn Ts xl xs l n) (hok : pm_ok τ cl acs Rn Ts) {m : pm_M} (hm : pm_okM Rn Ts m) {vs : List Value} {M Mf : pm_H} {r : Option Value} (hvs : vs.length ≤ pm_l m) (hall : vs.all pm_c1 = true) (hrun : pm_run τ xl xs n m 0 (pm_en m vs) [] M = some (r, Mf)) {base b : Nat} (hbb : b < base) (D : va_G) (cA : Nat → ClassId) :
    Met l (pm_y m) (Jvm.Cond.code (pm_y m) (pm_b m) (pm_l m) (pm_r m) :: Ts) ({ frames := pm_f m, cells := Mf.1 - M.1, slots := Mf.2.1 - M.2.1, locals := pm_o m }) (pm_P τ cl acs D cA base b xl xs vs M) (pm_Q τ cl acs D cA base b r Mf) (Mf.1 - M.1) (Mf.2.1 - M.2.1) (fun q => base ≤ q) := by
  refine Met.ofW (cc := pm_b m) (maxL := pm_l m) (ret := pm_r m) hm.2.1 rfl ?_
  intro p e s mi args below meth c s₁ B hml hv
  obtain ⟨rfl, hP, hX, hK⟩ := hv
  have hts := atoms_spec (ws := Jvm.Cond.code (pm_y m) (pm_b m) (pm_l m) (pm_r m) :: Ts) B.pre
  have hown : s.vm.findClass (Rn (pm_n m)) = some mi.cls := by rw [hm.2.2]; exact findClass_of_methodNamed B.named
  have hl0 := lv_entry (vs.map (pm_sh base b)) (n := pm_l m) (by rw [pm_lg base b vs hall]; exact hvs)
  rw [lg_entry_eq]
  generalize (lg_sl (vs.map (pm_sh base b)) ++ List.replicate (pm_l m - (lg_sl (vs.map (pm_sh base b))).length) Slot.unset).toArray = la at hl0 ⊢
  have hl : lv_has la (pm_l m) (pm_as (pm_w m) base b (pm_en m vs)) := ⟨hl0.1, hl0.2.1, fun q hq => hl0.2.2 q (pm_as_entry (pm_w m) base b m vs hall q hq)⟩
  refine hS (st := []) (M := M) (Mf := Mf) (r := r) (cells := 0) (slots := 0) B.exec B.bytes (fun w hw => hts w (List.mem_cons_of_mem _ hw)) hown (fun h => ((name_of_methodNamed B.named B.method).1).trans h) hml rfl rfl hK hbb hrun ⟨hP, hX, va_S.rf⟩ hl (pm_en_len hvs) (by show 0 + _ ≤ _; rw [Nat.zero_add]; exact Nat.le_refl _) (by show 0 + _ ≤ _; rw [Nat.zero_add]; exact Nat.le_refl _) ?_
  intro H1 locs1 la1 pc1 i st1 hR1 hd1 hrt
  rw [Nat.zero_add, Nat.zero_add]
  have hlocks := B.notSynchronized
  have hr := B.returns
  unfold pm_rt at hrt
  split at hrt
  · split at hrt
    · split at hrt
      · rename_i v hret
        cases hrt
        rcases hret with h | ⟨h, h2⟩
        · exact W.iret (v := v) B.exec B.bytes (by rw [hr, h]) (fun t ht _ => ⟨rfl, by rw [ht]; exact hR1.1, hR1.2.2.F ht⟩) hR1.2.2.2.2 hd1 hlocks
        · exact W.zret (v := v) B.exec B.bytes (by rw [hr, h]) (by rcases h2 with rfl | rfl <;> decide) (fun t ht _ => ⟨rfl, by rw [ht]; exact hR1.1, hR1.2.2.F ht⟩) hR1.2.2.2.2 hd1 hlocks
      · cases hrt
    · cases hrt
  · split at hrt
    · split at hrt
      · rename_i h
        cases hrt
        exact W.vret B.exec B.bytes (by rw [hr, h]) (fun t ht _ => ⟨rfl, by rw [ht]; exact hR1.1, hR1.2.2.F ht⟩) hR1.2.2.2.2 hd1 hlocks
      · cases hrt
    · cases hrt
  · split at hrt
    · split at hrt
      · rename_i h
        cases hrt
        exact W.lret B.exec B.bytes (by rw [hr, h]) (fun t ht _ => ⟨rfl, by rw [ht]; exact hR1.1, hR1.2.2.F ht⟩) hR1.2.2.2.2 hd1 hlocks
      · cases hrt
    · cases hrt
  · cases hrt
/-- behind a call -/
theorem pm_behind {p : Program} {e : Env} {R : Room} {s : State} {mi : MethodId} {args : Array Value} {below : List Frame} {meth : Method} {c0 : Code} {H : Heap} {locs : List Loc} {cells slots mc ms : Nat} {Q : State → Prop} {la : Array Slot} {D : va_G} {cA : Nat → ClassId} {base b : Nat} {pc : Nat} {st0 rest : List Value} {M M1 : pm_H} {r : Option Value} {a : Array Value} (hbb : b < base) (hR : pm_Rl τ cl acs D cA base b xl xs s M H locs)
    (hr : va_Run p l e R s mi args below meth c0 H locs cells slots mc ms (F0 mi pc la st0) (rest.map (pm_sh base b)) (pm_Q τ cl acs D cA base b r M1 a) (fun q => base ≤ q))
    (kk : ∀ (H1 : Heap) (locs1 : List Loc), pm_Rl τ cl acs D cA base b xl xs s M1 H1 locs1 → W p l e R s mi args below meth c0 H1 locs1 (cells + mc) (slots + ms) Q (F0 mi (pc + 3) la ((r.toList ++ rest).map (pm_sh base b)))) : W p l e R s mi args below meth c0 H locs cells slots Q (F0 mi pc la st0) := by
  intro T hT X
  obtain ⟨v, st₀, t, T', L, h0, X', hL, e1, e2, ⟨hv, hP, hz, hk⟩, st⟩ := hr T hT X
  cases hv
  rw [h0] at hz hk
  have hsz : s.heap.size ≤ H.size := hR.2.2.1
  have hR1 : pm_Rl τ cl acs D cA base b xl xs s M1 T'.heap (locs ++ L) := by
    rw [e1]
    refine ⟨hP, pm_X_keep hR.2.1 (hk b (by rw [hR.1.1]; omega) (by omega)), Nat.le_trans hsz hz, fun q h1 h2 => (hk q (by omega) h2).trans (hR.2.2.2.1 q h1 h2), fun q hq => ?_⟩
    rcases List.mem_append.mp hq with h | h
    · exact hR.2.2.2.2 q h
    · exact hL q h
  obtain ⟨t2, a1, b1⟩ := kk T'.heap _ hR1 T' rfl X'
  refine ⟨t2, st t2 ?_, b1⟩
  have he : (r.toList ++ rest).map (pm_sh base b) = (r.map (pm_sh base b)).toList ++ rest.map (pm_sh base b) := by cases r <;> rfl
  rw [he] at a1
  exact a1
theorem pm_cut {na : Nat} {st rest : List Value} {v : Value} (h : st.drop na = v :: rest) : st = st.take na ++ v :: rest := by
  rw [← h, List.take_append_drop]
set_option maxHeartbeats 4000000 in
theorem pm_all (hok : pm_ok τ cl acs Rn Ts) (n : Nat) : pm_S τ cl acs Rn Ts xl xs l n := by
  induction n with
  | zero =>
    intro p e R s mi args below meth c0 H locs cells slots Q la D cA base b m pc ls st M Mf r hx hb hts hown hname hml hRf hRo hK hbb hrun
    simp [pm_run] at hrun
  | succ n ih =>
    intro p e R s mi args below meth c0 H locs cells slots Q la D cA base b m pc ls st M Mf r hx hb hts hown hname hml hRf hRo hK hbb hrun hR hl hlen hcell hslot hret
    rw [pm_run] at hrun
    cases hd : decode (pm_b m) pc with
    | error er => rw [hd] at hrun; cases hrun
    | ok q =>
      obtain ⟨i, len⟩ := q
      rw [hd] at hrun
      dsimp only at hrun
      split at hrun
      · cases hrun
      · rename_i hln0
        have hln : pm_ln i len = true := by
          cases h : pm_ln i len with
          | true => rfl
          | false => exact absurd h hln0
        cases hc : pm_cl τ m st M i with
        | some w =>
          obtain ⟨m', vs, rest⟩ := w
          rw [hc] at hrun
          dsimp only at hrun
          cases hr : pm_run τ xl xs n m' 0 (pm_en m' vs) [] M with
          | none => rw [hr] at hrun; cases hrun
          | some w =>
            obtain ⟨r', M1⟩ := w
            rw [hr] at hrun
            dsimp only at hrun
            have m1 := pm_run_mono n hr
            have m2 := pm_run_mono n hrun
            dsimp only at m1 m2
            have hgo : ∀ (H1 : Heap) (locs1 : List Loc), pm_Rl τ cl acs D cA base b xl xs s M1 H1 locs1 → W p l e R s mi args below meth c0 H1 locs1 (cells + (M1.1 - M.1)) (slots + (M1.2.1 - M.2.1)) Q (F0 mi (pc + 3) la ((r'.toList ++ rest).map (pm_sh base b))) := by
              intro H1 locs1 hR1
              refine ih hx hb hts hown hname hml hRf hRo hK hbb hrun hR1 hl hlen (by omega) (by omega) ?_
              intro H2 locs2 la2 pc2 i2 st2 h2 h3 h4
              have := hret H2 locs2 la2 pc2 i2 st2 h2 h3 h4
              rw [show cells + (M1.1 - M.1) + (Mf.1 - M1.1) = cells + (Mf.1 - M.1) by omega, show slots + (M1.2.1 - M.2.1) + (Mf.2.1 - M1.2.1) = slots + (Mf.2.1 - M.2.1) by omega]
              exact this
            have hcs : cells + (M1.1 - M.1) ≤ R.cells ∧ slots + (M1.2.1 - M.2.1) ≤ R.slots := ⟨by omega, by omega⟩
            unfold pm_cl at hc
            split at hc
            · rename_i x
              obtain rfl : len = 3 := by simpa [pm_ln] using hln
              simp only [Option.bind_eq_some_iff] at hc
              obtain ⟨⟨kd, m0, na⟩, hq, hc⟩ := hc
              dsimp only at hc
              split at hc
              · rename_i o rest0 hdrop
                split at hc
                · rename_i hcond
                  obtain ⟨rfl, hko, h1, h2, h3, h4, h5, h6⟩ := hcond
                  simp only [Option.some.injEq, Prod.mk.injEq] at hc
                  obtain ⟨rfl, rfl, rfl⟩ := hc
                  obtain ⟨-, hc1, hc2, -, -, -, -⟩ := hok.2.2.2.2.2.2.2.2 _ _ _ hq
                  obtain ⟨hm, hlk, hini, hdes⟩ := hc1 (by show 0 < 3; decide)
                  obtain ⟨hins, hsel⟩ := hc2 rfl
                  dsimp only at hm hlk hini hdes hins hsel
                  have hlt : (st.take na).length = na := by rw [List.length_take]; omega
                  have hM := pm_met ih hok hm (vs := .ref o :: (st.take na).reverse) (by rw [List.length_cons, List.length_reverse, hlt]; exact h2) (by rw [List.all_cons, List.all_reverse, h6]; rfl) hr hbb D cA
                  have hat := (hR.1.2.2 o).1 (pm_n m0) (pm_k M o).2 (by rw [← hko])
                  obtain ⟨⟨q, hqc, hql⟩, cell, q1, q2, q3, -⟩ := hat
                  have hRn := (hok.2.1 _ _ hqc).1
                  have hcls := (hK.1.1 _ _ hqc).2
                  have hcall := va_runV (As := ((st.take na).reverse).map (pm_sh base b)) (rest := rest0.map (pm_sh base b)) (b := base + o) (C := (pm_y m0).cls) (index := x) (g := F0 mi pc la (st.map (pm_sh base b))) (cells := cells) (slots := slots) (locs := locs) (H := H) (below := below) (meth := meth) (e := e) (R := R) ⟨hx, hb, hml, hown, hts⟩ hM
                    (cwV na hts (pm_goodIn hok (fun w hw => by
                      simp only [wsV, List.mem_append, List.mem_cons, List.not_mem_nil, or_false] at hw
                      rcases hw with (rfl | rfl | rfl | rfl) | rfl | hw
                      · exact hlk
                      · exact hins
                      · exact hsel
                      · exact hini
                      · exact hm.1
                      · exact hw)) rfl rfl rfl ⟨rfl, hdes.1, hdes.2.1, hdes.2.2⟩ ⟨by rw [hRf]; exact h4, by rw [hRo]; exact h5⟩)
                    ⟨pm_blind, ⟨cell, q1, by rw [q3]; rfl, by rw [q2, ← hm.2.2, hRn]; exact hcls.1⟩, fun U hU hW => ⟨by rw [List.map_cons]; rfl, by rw [hU]; exact hR.1, va_X.moved hW.alike (by rw [hU]; exact hR.2.1), pm_K.moved hW.alike hK⟩⟩
                    rfl (by rw [List.length_map, List.length_reverse, hlt]) hl.1 (by
                      show st.map (pm_sh base b) = _
                      rw [List.map_reverse, List.reverse_reverse]
                      conv => lhs; rw [pm_cut hdrop]
                      rw [List.map_append, List.map_cons]
                      rfl) (lv_room (Nat.le_trans (pm_cats _ _ _) h3)) hd hcs
                  exact pm_behind hbb hR hcall hgo
                · cases hc
              · cases hc
            · rename_i x
              obtain rfl : len = 3 := by simpa [pm_ln] using hln
              simp only [Option.bind_eq_some_iff] at hc
              obtain ⟨⟨kd, m0, na⟩, hq, hc⟩ := hc
              dsimp only at hc
              split at hc
              · rename_i hcond
                obtain ⟨rfl, h1, h2, h3, h4, h5, h6⟩ := hcond
                simp only [Option.some.injEq, Prod.mk.injEq] at hc
                obtain ⟨rfl, rfl, rfl⟩ := hc
                obtain ⟨-, hc1, -, hc2, -, -, -⟩ := hok.2.2.2.2.2.2.2.2 _ _ _ hq
                obtain ⟨hm, hlk, hini, hdes⟩ := hc1 (by show 1 < 3; decide)
                have hstt := hc2 rfl
                dsimp only at hm hlk hini hdes hstt
                have hlt : (st.take na).length = na := by rw [List.length_take]; omega
                have hM := pm_met ih hok hm (vs := (st.take na).reverse) (by rw [List.length_reverse, hlt]; exact h2) (by rw [List.all_reverse]; exact h6) hr hbb D cA
                have hcall := va_runS (As := ((st.take na).reverse).map (pm_sh base b)) (rest := (st.drop na).map (pm_sh base b)) (index := x) (g := F0 mi pc la (st.map (pm_sh base b))) (cells := cells) (slots := slots) (locs := locs) (H := H) (below := below) (meth := meth) (e := e) (R := R) ⟨hx, hb, hml, hown, hts⟩ hM
                  ⟨callB_of na hts (pm_goodIn hok (fun w hw => by
                    rcases List.mem_cons.mp hw with rfl | hw
                    · exact hm.1
                    · exact hw)) rfl rfl rfl (hts _ hini) (hts _ hlk) ⟨hdes.1, hdes.2.1, hdes.2.2⟩ ⟨by rw [hRf]; exact h4, by rw [hRo]; exact h5⟩, hts _ hstt⟩
                  ⟨pm_blind, fun U hU hW => ⟨rfl, by rw [hU]; exact hR.1, va_X.moved hW.alike (by rw [hU]; exact hR.2.1), pm_K.moved hW.alike hK⟩⟩
                  rfl (by rw [List.length_map, List.length_reverse, hlt]) hl.1 (by
                    show st.map (pm_sh base b) = _
                    rw [List.map_reverse, List.reverse_reverse, ← List.map_append, List.take_append_drop]) (lv_room (Nat.le_trans (pm_cats _ _ _) h3)) hd hcs
                exact pm_behind hbb hR hcall hgo
              · cases hc
            · rename_i x
              obtain rfl : len = 3 := by simpa [pm_ln] using hln
              simp only [Option.bind_eq_some_iff] at hc
              obtain ⟨⟨kd, m0, na⟩, hq, hc⟩ := hc
              dsimp only at hc
              split at hc
              · rename_i o rest0 hdrop
                split at hc
                · rename_i hcond
                  obtain ⟨rfl, h1, h2, h3, h4, h5, h6⟩ := hcond
                  simp only [Option.some.injEq, Prod.mk.injEq] at hc
                  obtain ⟨rfl, rfl, rfl⟩ := hc
                  obtain ⟨-, hc1, -, -, hc2, -, -⟩ := hok.2.2.2.2.2.2.2.2 _ _ _ hq
                  obtain ⟨hm, hlk, hini, hdes⟩ := hc1 (by show 2 < 3; decide)
                  obtain ⟨hnm, hins, hrn⟩ := hc2 rfl
                  dsimp only at hm hlk hini hdes hnm hins hrn
                  have hlt : (st.take na).length = na := by rw [List.length_take]; omega
                  have hM := pm_met ih hok hm (vs := .ref o :: (st.take na).reverse) (by rw [List.length_cons, List.length_reverse, hlt]; exact h2) (by rw [List.all_cons, List.all_reverse, h6]; rfl) hr hbb D cA
                  have hcall := va_runI (As := ((st.take na).reverse).map (pm_sh base b)) (rest := rest0.map (pm_sh base b)) (b := base + o) (index := x) (g := F0 mi pc la (st.map (pm_sh base b))) (cells := cells) (slots := slots) (locs := locs) (H := H) (below := below) (meth := meth) (e := e) (R := R) ⟨hx, hb, hml, hown, hts⟩ hM
                    ⟨callB_of na hts (pm_goodIn hok (fun w hw => by
                      rcases List.mem_cons.mp hw with rfl | hw
                      · exact hm.1
                      · exact hw)) (by rw [hrn]) rfl rfl (hts _ hini) (hts _ hlk) ⟨hdes.1, hdes.2.1, hdes.2.2⟩ ⟨by rw [hRf]; exact h4, by rw [hRo]; exact h5⟩, hnm, hts _ hins⟩
                    ⟨pm_blind, fun U hU hW => ⟨by rw [List.map_cons]; rfl, by rw [hU]; exact hR.1, va_X.moved hW.alike (by rw [hU]; exact hR.2.1), pm_K.moved hW.alike hK⟩⟩
                    rfl (by rw [List.length_map, List.length_reverse, hlt]) hl.1 (by
                      show st.map (pm_sh base b) = _
                      rw [List.map_reverse, List.reverse_reverse]
                      conv => lhs; rw [pm_cut hdrop]
                      rw [List.map_append, List.map_cons]
                      rfl) (lv_room (Nat.le_trans (pm_cats _ _ _) h3)) hd hcs
                  exact pm_behind hbb hR hcall hgo
                · cases hc
              · cases hc
            · cases hc
        | none =>
          rw [hc] at hrun
          dsimp only at hrun
          cases ht : pm_rt m st i with
          | some r' =>
            rw [ht] at hrun
            cases hrun
            have hl1 : len = 1 := by
              unfold pm_rt at ht
              split at ht
              · simpa [pm_ln] using hln
              · simpa [pm_ln] using hln
              · simpa [pm_ln] using hln
              · cases ht
            subst hl1
            have := hret H locs la pc i st hR hd ht
            rwa [Nat.sub_self, Nat.sub_self, Nat.add_zero, Nat.add_zero] at this
          | none =>
            rw [ht] at hrun
            dsimp only at hrun
            cases hn : pm_nx τ m xl xs pc ls st M i with
            | none => rw [hn] at hrun; cases hrun
            | some w =>
              obtain ⟨pc', ls', st', M1⟩ := w
              rw [hn] at hrun
              dsimp only at hrun
              have m1 := pm_nx_mono hn
              have m2 := pm_run_mono n hrun
              dsimp only at m1 m2
              refine pm_nxW hx hb hok hts hown hname hml hRf hRo hK hbb hd hln hn hR hl hlen (by omega) (by omega) fun H1 locs1 la1 hR1 hl1 hlen1 => ?_
              refine ih hx hb hts hown hname hml hRf hRo hK hbb hrun hR1 hl1 hlen1 (by omega) (by omega) ?_
              intro H2 locs2 la2 pc2 i2 st2 h2 h3 h4
              have := hret H2 locs2 la2 pc2 i2 st2 h2 h3 h4
              rw [show cells + (M1.1 - M.1) + (Mf.1 - M1.1) = cells + (Mf.1 - M.1) by omega, show slots + (M1.2.1 - M.2.1) + (Mf.2.1 - M1.2.1) = slots + (Mf.2.1 - M.2.1) by omega]
              exact this
end PMC
