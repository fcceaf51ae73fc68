/-! THE CLAIM OUT OF ONE WALK OF THE LAW'S BODY. Your part is whole_start (and what it stands on); all else here is the same for every law, but numbers. -/
def R_law : String := "BountyDeskLaw"
def lw_P (b : Addr) (xs : List Int32) (args : Array Value) (s : State) : Prop := args = #[.ref b] ∧ s.IntsAt b xs ∧ xs.length ≤ 260 ∧ (Jvm.Cond.and given_1 narrow_1).before args s = true
def lw_Q (_ : Array Value) (s : State) (o : Outcome) (t : State) : Prop := o = .returned (some (.int 1)) ∧ Framed s o t [] 600000 7302250
def lw_Z (below : List Frame) (a : Array Value) (s : State) : State → Prop := fun t => ∃ o, t.status = .running ∧ Ended t below o ∧ lw_Q a s o t
/-- the law's own end, with 1 on the stack, nothing written that was there before, its room as the claim has it -/
theorem lw_ret {p : Program} {l : Launch} {e : Env} {s : State} {m : MethodId} {below : List Frame} {meth : Method} {c : Code} {b : Nat} (hx : p.tables.exec = Jvm.exec) (hb : c.code = code) (hr : meth.sig.returnType = ret) (hlocks : meth.locks = false) {pc : Nat} {H : Heap} {ls : Array Slot} (hdg : decode code pc = .ok (.ireturn, 1)) : W p l e room_1 s m #[Value.ref b] below meth c H [] 600000 7302250 (lw_Z below #[Value.ref b] s) (F0 m pc ls [.int 1]) := by
  intro T hT X
  obtain ⟨fs, hret, hrun, hended, hW, hframe⟩ := X.leave (v := some (.int 1)) (hlocks := hlocks) (fun h => by rw [hr] at h; cases h)
  have hmeth' : T.vm.method? m = some meth := X.method'
  refine ⟨T.setFrames fs, ?_, .returned (some (.int 1)), hrun, hended, rfl, ⟨_, rfl⟩, hW, hframe⟩
  jvm_step X.here [X.here.top, hx, hb, hdg, hmeth', hr, ret, narrow_b1]
  (try refine ⟨rfl, ?_⟩); (try refine ⟨rfl, ?_⟩)
  first | (intro acts; rw [hret _ acts rfl rfl rfl]) | rw [hret _ _ rfl rfl rfl]
  exact Steps.refl _
/-- what holds at the law's entry: the machine, the code, the tables' words (any of lw_tbl by 'hts w (by decide +kernel)'), the script of L ints xs at the cell b, what the Statement gives of the start (any of its parts by flat_of_before) -/
def lw_At (p : Program) (s : State) (m : MethodId) (meth : Method) (c : Code) (b L : Nat) (xs : Nat → Int32) : Prop :=
  p.tables.exec = Jvm.exec ∧ c.code = code ∧ meth.sig.returnType = ret ∧ c.maxLocals = 11 ∧ s.vm.findClass R_law = some m.cls ∧ (∀ w ∈ lw_tbl, w.before #[Value.ref b] s = true) ∧ va_X b L xs s s.heap ∧ b < s.heap.size ∧ meth.locks = false ∧ (Jvm.Cond.and given_1 narrow_1).before #[Value.ref b] s = true
/-- nothing yet -/
def M00 : pm_H := (0, 0, fun _ => (0, 0), fun _ _ => none, fun _ _ => 0)
theorem br_arrI {args : Array Value} {s : State} (h : (Jvm.Cond.arrayClass .int).before args s = true) : ∃ c : ClassId, ArrOfT s c .int ∧ va_RA s c .int := by
  obtain ⟨c, k, comp, h1, h2, h3⟩ := Jvm.Cond.arrayClass_spec h
  exact ⟨c, fun N z => ⟨fun k h => (by cases h), k, h2, comp, h3⟩, h1⟩
theorem br_arrO {args : Array Value} {s : State} {C : String} (h : (Jvm.Cond.arrayOver (.object C)).before args s = true) : ∃ c : ClassId, (ArrOfT s c (.object C) ∧ va_RA s c (.object C)) ∧ va_AO C s := by
  obtain ⟨comp, c, k, h1, h2, h3, h4, h5⟩ := Jvm.Cond.arrayOver_spec h
  exact ⟨c, ⟨fun N z => ⟨fun k h => (by cases h), k, h3, comp, h4⟩, k, comp, h3, h4, h1, h5⟩, va_AO.of h⟩
set_option maxHeartbeats 4000000 in
/-- what the law is asked: over the pure machine it comes to its end with 1 -/
theorem whole_of {p : Program} {e : Env} {s : State} {m : MethodId} {below : List Frame} {meth : Method} {c : Code} (l : Launch) {b L : Nat} {xs : Nat → Int32} {Mf : pm_H} (hev : pm_ev tb L xs mL_law 0 [some (.double 0), none, none, none, none, none, none, none, none, none, none] [] M00 = some (some (.int 1), Mf)) (hc : Mf.1 ≤ 600000) (hs : Mf.2.1 ≤ 7302250) (C0 : lw_At p s m meth c b L xs) : W p l e room_1 s m #[Value.ref b] below meth c s.heap [] 0 0 (lw_Z below #[Value.ref b] s) (entryFrame m ([Value.ref b] : List Value).toArray 11) := by
  obtain ⟨n, hrun⟩ := pm_ev_iff.mp hev
  obtain ⟨hx, hb, hr, hml, hown, hts, hX, hbl, hlocks, hgv⟩ := C0
  have hts' : ∀ w ∈ tb_T, w.before #[Value.ref b] s = true := fun w h => hts w (List.mem_filter.mp h).1
  obtain ⟨c0, i0, hk0⟩ := u_known (C := RX0) (T := TX0) (N := 3) (n := 3) hts' okk_0.2.1 (hts' (.instantiable RX0 3) (tb_in 27 (by decide +kernel) rfl))
  obtain ⟨c1, i1, hk1⟩ := u_known (C := RX1) (T := TX1) (N := 12) (n := 12) hts' okk_1.2.1 (hts' (.instantiable RX1 12) (tb_in 20 (by decide +kernel) rfl))
  obtain ⟨c2, i2, hk2⟩ := u_known (C := RX2) (T := TX2) (N := 4) (n := 4) hts' okk_2.2.1 (hts' (.instantiable RX2 4) (tb_in 50 (by decide +kernel) rfl))
  obtain ⟨c3, i3, hk3⟩ := u_known (C := RX3) (T := TX3) (N := 12) (n := 12) hts' okk_3.2.1 (hts' (.instantiable RX3 12) (tb_in 78 (by decide +kernel) rfl))
  obtain ⟨c4, i4, hk4⟩ := u_known (C := RX4) (T := TX4) (N := 6) (n := 6) hts' okk_4.2.1 (hts' (.instantiable RX4 6) (tb_in 12 (by decide +kernel) rfl))
  obtain ⟨a0, ha0⟩ := br_arrI (hts' (.arrayClass .int) tb_ok.2.2.2.2.2.2.1)
  obtain ⟨b0, hb0⟩ := br_arrO (C := RX0) (hts (.arrayOver (.object RX0)) (List.mem_of_getElem? (i := 26) (by decide +kernel)))
  obtain ⟨b1, hb1⟩ := br_arrO (C := RX1) (hts (.arrayOver (.object RX1)) (List.mem_of_getElem? (i := 192) (by decide +kernel)))
  obtain ⟨b2, hb2⟩ := br_arrO (C := RX2) (hts (.arrayOver (.object RX2)) (List.mem_of_getElem? (i := 49) (by decide +kernel)))
  obtain ⟨b3, hb3⟩ := br_arrO (C := RX3) (hts (.arrayOver (.object RX3)) (List.mem_of_getElem? (i := 77) (by decide +kernel)))
  have hK : pm_K vwCl tb_acs (fun k => match k with | 0 => c0 | 1 => c1 | 2 => c2 | 3 => c3 | _ => c4, fun k => match k with | 0 => i0 | 1 => i1 | 2 => i2 | 3 => i3 | _ => i4) (fun k => match k with | 1 => a0 | 3 => b0 | 5 => b1 | 7 => b2 | 9 => b3 | _ => 0) s := by
    refine ⟨⟨fun k q hq => ?_, fun k q h => by simp at h⟩, ha0, fun k hk q hq => ?_⟩
    · match k, hq with
      | 0, hq => cases hq; exact hk0
      | 1, hq => cases hq; exact hk1
      | 2, hq => cases hq; exact hk2
      | 3, hq => cases hq; exact hk3
      | 4, hq => cases hq; exact hk4
      | k + 5, hq => cases hq
    · simp only [tb_acs, List.mem_cons, List.not_mem_nil, or_false] at hk
      rcases hk with rfl | rfl | rfl | rfl
      · cases hq; exact hb0
      · cases hq; exact hb1
      · cases hq; exact hb2
      · cases hq; exact hb3
  have hl0 := lv_entry ([Value.ref b]) (n := 11) (Nat.le_of_ble_eq_true rfl)
  rw [lg_entry_eq]
  generalize (lg_sl ([Value.ref b]) ++ List.replicate (11 - (lg_sl ([Value.ref b])).length) Slot.unset).toArray = la at hl0 ⊢
  have hl : lv_has la 11 (pm_as (pm_w mL_law) s.heap.size b [some (.double 0), none, none, none, none, none, none, none, none, none, none]) := by
    refine ⟨hl0.1, hl0.2.1, fun q hq => hl0.2.2 q ?_⟩
    have := pm_as_entry (pm_w mL_law) s.heap.size b mL_law [.double 0] rfl q hq
    exact this
  refine pm_all (l := l) tb_ok n (st := []) (M := M00) (m := mL_law) (base := s.heap.size) (b := b) hx hb hts' hown (fun h => absurd h (by decide)) hml rfl rfl hK hbl hrun ⟨⟨rfl, fun k _ => rfl, fun k => ⟨fun c n h => ?_, fun n h => ?_, fun c n h => ?_⟩⟩, hX, va_S.rf⟩ hl rfl (by show 0 + (Mf.1 - 0) ≤ 600000; omega) (by show 0 + (Mf.2.1 - 0) ≤ 7302250; omega) ?_
  · have : 0 = 2 * c + 2 := congrArg Prod.fst h
    omega
  · have : 0 = 1 := congrArg Prod.fst h
    omega
  · have : 0 = 2 * c + 3 := congrArg Prod.fst h
    omega
  · intro H1 locs1 la1 pc1 i st1 hR1 hd1 hrt
    unfold pm_rt at hrt
    split at hrt
    · split at hrt
      · split at hrt
        · cases hrt
          refine va_forget hR1.2.2.2.2 ?_
          refine W.widen (k := 600000) (n := 7302250) (by show 0 + (Mf.1 - 0) ≤ 600000; omega) (by show 0 + (Mf.2.1 - 0) ≤ 7302250; omega) ?_
          exact lw_ret hx hb hr hlocks hd1
        · cases hrt
      · cases hrt
    · split at hrt
      · split at hrt <;> cases hrt
      · cases hrt
    · split at hrt
      · split at hrt <;> cases hrt
      · cases hrt
    · cases hrt
