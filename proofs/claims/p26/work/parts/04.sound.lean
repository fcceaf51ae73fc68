/-! THE REAL MACHINE ANSWERS WHAT THE PURE ONE DOES: pictures of a heap, instruction by instruction -/
def pm_sh (base b : Nat) (v : Value) : Value := match v with
  | .int x => .int x
  | .ref o => .ref (base + o)
  | .double _ => .ref b
  | .long x => .long x
  | _ => .null
theorem pm_sh_cat (base b : Nat) (v : Value) (h : pm_c1 v = true) : (pm_sh base b v).category = 1 := by cases v <;> first | rfl | cases h
theorem pm_sh_cat2 (base b : Nat) (v : Value) : (pm_sh base b v).category ≤ 2 := by cases v <;> exact Nat.le_of_ble_eq_true rfl
theorem pm_sh_rv (base b : Nat) (r : Option Nat) : pm_sh base b (pm_rv r) = va_rf (r.map (fun o => base + o)) := by cases r <;> rfl
/-- the listed values of a frame's variables: longs where the method holds longs alone -/
def pm_as (w : List Nat) (base b : Nat) (ls : pm_L) : List (Nat × Value) := (List.range ls.length).filterMap fun i => match ls[i]? with
  | some (some v) => if pm_c1 v = true ∨ w.contains i = true then some (i, pm_sh base b v) else none
  | _ => none
theorem pm_as_mem {w : List Nat} {base b : Nat} {ls : pm_L} {q : Nat × Value} : q ∈ pm_as w base b ls ↔ ∃ v, ls[q.1]? = some (some v) ∧ (pm_c1 v = true ∨ w.contains q.1 = true) ∧ q.2 = pm_sh base b v := by
  unfold pm_as
  rw [List.mem_filterMap]
  constructor
  · rintro ⟨i, hi, h⟩
    split at h
    · rename_i v hv
      split at h
      · rename_i hc
        cases h
        exact ⟨v, hv, hc, rfl⟩
      · cases h
    · cases h
  · rintro ⟨v, h1, hc, h2⟩
    have hlt : q.1 < ls.length := (List.getElem?_eq_some_iff.mp h1).1
    refine ⟨q.1, List.mem_range.mpr hlt, ?_⟩
    rw [h1]
    obtain ⟨a, w⟩ := q
    dsimp only at h2 hc ⊢
    rw [if_pos hc, h2]
theorem pm_as_at {w : List Nat} {base b nL : Nat} {ls : pm_L} {la : Array Slot} (h : lv_has la nL (pm_as w base b ls)) {k : Nat} {v : Value} (hc : pm_c1 v = true ∨ w.contains k = true) (hk : ls[k]? = some (some v)) : la[k]? = some (.val (pm_sh base b v)) := h.2.2 (k, pm_sh base b v) (pm_as_mem.mpr ⟨v, hk, hc, rfl⟩)
theorem pm_nl_no {w : List Nat} {ls : pm_L} {k a : Nat} {u : Value} (h : pm_nl w ls k = true) (ha : w.contains a = true) (hu : ls[a]? = some (some u)) : a + 1 ≠ k ∨ pm_c1 u = true := by
  have := List.all_eq_true.mp h a (List.contains_iff_mem.mp ha)
  rw [hu, Bool.or_eq_true] at this
  rcases this with h | h
  · exact Or.inl (by simpa using h)
  · refine Or.inr ?_
    cases u <;> first | rfl | cases h
theorem pm_as_set {w : List Nat} {base b nL : Nat} {ls : pm_L} {la : Array Slot} {k : Nat} {v : Value} (hnl : pm_nl w ls k = true) (h : lv_has la nL ((k, pm_sh base b v) :: (pm_as w base b ls).filter (fun q => !(q.1 == k) && !(q.1 + 1 == k && q.2.category == 2)))) : lv_has la nL (pm_as w base b (ls.set k (some v))) := by
  refine ⟨h.1, h.2.1, fun q hq => ?_⟩
  obtain ⟨u, h1, hc, h2⟩ := pm_as_mem.mp hq
  refine h.2.2 q ?_
  obtain ⟨a, z⟩ := q
  dsimp only at h1 h2 hc
  subst h2
  by_cases ha : a = k
  · subst ha
    rw [List.getElem?_set] at h1
    rw [if_pos rfl] at h1
    split at h1
    · cases h1
      exact List.mem_cons_self
    · cases h1
  · rw [List.getElem?_set_ne (fun e => ha e.symm)] at h1
    refine List.mem_cons_of_mem _ (List.mem_filter.mpr ⟨pm_as_mem.mpr ⟨u, h1, hc, rfl⟩, ?_⟩)
    rcases hc with hc | hc
    · have hc := pm_sh_cat base b u hc
      simp [ha, hc]
    · rcases pm_nl_no hnl hc h1 with hc | hc
      · simp [ha, hc]
      · have hc := pm_sh_cat base b u hc
        simp [ha, hc]
theorem pm_as_setL {w : List Nat} {base b nL : Nat} {ls : pm_L} {la : Array Slot} {k : Nat} {x : Int64} (hnl : pm_nl w ls k = true) (h : lv_has la nL ((k, .long x) :: (pm_as w base b ls).filter (fun q => !(q.1 == k) && (!(q.1 == k + 1) && !(q.1 + 1 == k && q.2.category == 2))))) : lv_has la nL (pm_as w base b ((ls.set k (some (.long x))).set (k + 1) none)) := by
  refine ⟨h.1, h.2.1, fun q hq => ?_⟩
  obtain ⟨u, h1, hc, h2⟩ := pm_as_mem.mp hq
  refine h.2.2 q ?_
  obtain ⟨a, z⟩ := q
  dsimp only at h1 h2 hc
  subst h2
  by_cases hb : a = k + 1
  · subst hb
    rw [List.getElem?_set] at h1
    rw [if_pos rfl] at h1
    split at h1 <;> cases h1
  · rw [List.getElem?_set_ne (fun e => hb e.symm)] at h1
    by_cases ha : a = k
    · subst ha
      rw [List.getElem?_set] at h1
      rw [if_pos rfl] at h1
      split at h1
      · cases h1
        exact List.mem_cons_self
      · cases h1
    · rw [List.getElem?_set_ne (fun e => ha e.symm)] at h1
      refine List.mem_cons_of_mem _ (List.mem_filter.mpr ⟨pm_as_mem.mpr ⟨u, h1, hc, rfl⟩, ?_⟩)
      rcases hc with hc | hc
      · have hc := pm_sh_cat base b u hc
        simp [ha, hb, hc]
      · rcases pm_nl_no hnl hc h1 with hc | hc
        · simp [ha, hb, hc]
        · have hc := pm_sh_cat base b u hc
          simp [ha, hb, hc]
theorem pm_as_entry (w : List Nat) (base b : Nat) (m : pm_M) (vs : List Value) (hall : vs.all pm_c1 = true) : ∀ q ∈ pm_as w base b (pm_en m vs), q ∈ lv_args 0 (vs.map (pm_sh base b)) := by
  intro q hq
  obtain ⟨v, h1, hcc, h2⟩ := pm_as_mem.mp hq
  obtain ⟨a, z⟩ := q
  dsimp only at h1 h2
  subst h2
  have hv : vs[a]? = some v := by
    unfold pm_en at h1
    rw [List.getElem?_append] at h1
    split at h1
    · rw [List.getElem?_map] at h1
      cases hx : vs[a]? with
      | none => rw [hx] at h1; cases h1
      | some w => rw [hx] at h1; cases h1; rfl
    · rw [List.getElem?_replicate] at h1
      split at h1 <;> cases h1
  have key : ∀ (us : List Value) (i j : Nat), us.all pm_c1 = true → us[j]? = some v → (i + j, pm_sh base b v) ∈ lv_args i (us.map (pm_sh base b)) := by
    intro us
    induction us with
    | nil => intro i j _ h; cases h
    | cons u us ih =>
      intro i j hal h
      rw [List.all_cons, Bool.and_eq_true] at hal
      rw [List.map_cons, lv_args]
      rw [if_neg (by rw [pm_sh_cat base b u hal.1]; decide)]
      cases j with
      | zero => cases h; exact List.mem_cons_self
      | succ j =>
        have := ih (i + 1) j hal.2 h
        rw [show i + (j + 1) = i + 1 + j by omega]
        exact List.mem_cons_of_mem _ this
  have := key vs 0 a hall hv
  rwa [Nat.zero_add] at this
theorem pm_en_len {m : pm_M} {vs : List Value} (h : vs.length ≤ pm_l m) : (pm_en m vs).length = pm_l m := by
  simp [pm_en]
  omega
theorem pm_lg (base b : Nat) (vs : List Value) (hall : vs.all pm_c1 = true) : (lg_sl (vs.map (pm_sh base b))).length = vs.length := by
  induction vs with
  | nil => rfl
  | cons v vs ih =>
    rw [List.all_cons, Bool.and_eq_true] at hall
    show (List.flatMap _ _).length = _
    rw [List.map_cons, List.flatMap_cons, List.length_append]
    rw [if_neg (by rw [pm_sh_cat base b v hall.1]; decide)]
    have : (List.flatMap (fun v => if v.category = 2 then [Slot.val v, .second] else [.val v]) (vs.map (pm_sh base b))).length = vs.length := ih hall.2
    rw [this]
    simp
    omega
theorem pm_cats (base b : Nat) (st : List Value) : ((st.map (pm_sh base b)).map fun v => v.category).sum ≤ 2 * st.length := by
  induction st with
  | nil => exact Nat.le_refl _
  | cons v st ih =>
    rw [List.map_cons, List.map_cons, List.sum_cons, List.length_cons]
    have := pm_sh_cat2 base b v
    omega
/-- one cell of the picture -/
def pm_at (τ : pm_T) (cl : List vw_C) (acs : List Nat) (D : va_G) (cA : Nat → ClassId) (base : Nat) (M : pm_H) (H : Heap) (k : Nat) : Prop :=
  (∀ c n : Nat, pm_k M k = (2 * c + 2, n) → (∃ q : vw_C, cl[c]? = some q ∧ q.2.2 = n) ∧ t_OB (base + k) (D.1 c) n (D.2 c) H (fun j => if pm_ts τ c j = 2 then va_rf ((pm_rs M k j).map (fun o => base + o)) else .int (pm_is M k j))) ∧
  (∀ n : Nat, pm_k M k = (1, n) → H[base + k]? = some (arrV (cA 1) n (fun j => .int (pm_is M k j)))) ∧
  (∀ c n : Nat, pm_k M k = (2 * c + 3, n) → c ∈ acs ∧ H[base + k]? = some (arrV (cA (2 * c + 3)) n (fun j => va_rf ((pm_rs M k j).map (fun o => base + o)))))
theorem pm_at_keep {τ : pm_T} {cl : List vw_C} {acs : List Nat} {D : va_G} {cA : Nat → ClassId} {base : Nat} {M M' : pm_H} {H H' : Heap} {k : Nat} (h : pm_at τ cl acs D cA base M H k) (hH : H'[base + k]? = H[base + k]?) (hk : pm_k M' k = pm_k M k) (hr : ∀ j, pm_rs M' k j = pm_rs M k j) (hi : ∀ j, pm_is M' k j = pm_is M k j) : pm_at τ cl acs D cA base M' H' k := by
  obtain ⟨h1, h2, h3⟩ := h
  refine ⟨fun c n e => ?_, fun n e => ?_, fun c n e => ?_⟩
  · obtain ⟨a, b⟩ := h1 c n (hk.symm.trans e)
    refine ⟨a, (b.kept hH).to fun j _ => ?_⟩
    rw [hr, hi]
  · rw [hH, h2 n (hk.symm.trans e)]
    exact congrArg some (congrArg (arrV (cA 1) n) (funext fun j => by rw [hi]))
  · obtain ⟨a, b⟩ := h3 c n (hk.symm.trans e)
    refine ⟨a, ?_⟩
    rw [hH, b]
    exact congrArg some (congrArg (arrV _ n) (funext fun j => by rw [hr]))
/-- what the tables say, of the machine that stands there -/
def pm_K (cl : List vw_C) (acs : List Nat) (D : va_G) (cA : Nat → ClassId) (s : State) : Prop :=
  va_K D cl [] s ∧ (ArrOfT s (cA 1) .int ∧ va_RA s (cA 1) .int) ∧ ∀ c, c ∈ acs → ∀ q : vw_C, cl[c]? = some q → (ArrOfT s (cA (2 * c + 3)) (.object q.1) ∧ va_RA s (cA (2 * c + 3)) (.object q.1)) ∧ va_AO q.1 s
theorem pm_K.moved {cl : List vw_C} {acs : List Nat} {D : va_G} {cA : Nat → ClassId} {u U : State} (hvm : u.vm.Alike U.vm) (h : pm_K cl acs D cA u) : pm_K cl acs D cA U :=
  ⟨va_K.moved hvm h.1, ⟨arrOfT_moved hvm h.2.1.1, h.2.1.2.moved hvm⟩, fun c hc q hq => ⟨⟨arrOfT_moved hvm (h.2.2 c hc q hq).1.1, (h.2.2 c hc q hq).1.2.moved hvm⟩, va_AO.moved hvm (h.2.2 c hc q hq).2⟩⟩
/-- a heap that the memory pictures -/
def pm_Pic (τ : pm_T) (cl : List vw_C) (acs : List Nat) (D : va_G) (cA : Nat → ClassId) (base : Nat) (M : pm_H) (H : Heap) : Prop :=
  H.size = base + M.1 ∧ (∀ k, M.1 ≤ k → (pm_k M k).1 = 0) ∧ ∀ k, pm_at τ cl acs D cA base M H k
theorem pm_Pic.lt {τ : pm_T} {cl : List vw_C} {acs : List Nat} {D : va_G} {cA : Nat → ClassId} {base : Nat} {M : pm_H} {H : Heap} (h : pm_Pic τ cl acs D cA base M H) {k : Nat} (hk : (pm_k M k).1 ≠ 0) : k < M.1 := by
  rcases Nat.lt_or_ge k M.1 with h1 | h1
  · exact h1
  · exact absurd (h.2.1 k h1) hk
/-- one cell has changed -/
theorem pm_Pic.put {τ : pm_T} {cl : List vw_C} {acs : List Nat} {D : va_G} {cA : Nat → ClassId} {base : Nat} {M M' : pm_H} {H H' : Heap} {k : Nat} (h : pm_Pic τ cl acs D cA base M H) (hz : H'.size = H.size) (hq : ∀ q, q ≠ base + k → H'[q]? = H[q]?) (h1 : M'.1 = M.1) (hk : ∀ a, pm_k M' a = pm_k M a) (hr : ∀ a, a ≠ k → ∀ j, pm_rs M' a j = pm_rs M a j) (hi : ∀ a, a ≠ k → ∀ j, pm_is M' a j = pm_is M a j) (hat : pm_at τ cl acs D cA base M' H' k) : pm_Pic τ cl acs D cA base M' H' := by
  refine ⟨by rw [hz, h1]; exact h.1, fun a ha => by rw [hk]; exact h.2.1 a (by rw [← h1]; exact ha), fun a => ?_⟩
  by_cases e : a = k
  · subst e; exact hat
  · exact pm_at_keep (h.2.2 a) (hq _ (by omega)) (hk a) (hr a e) (hi a e)
theorem pm_new_k (M : pm_H) (kind len k : Nat) : pm_k (pm_new M kind len) k = if k = M.1 then (kind, len) else pm_k M k := rfl
theorem pm_new_r (M : pm_H) (kind len k j : Nat) : pm_rs (pm_new M kind len) k j = if k = M.1 then none else pm_rs M k j := rfl
theorem pm_new_i (M : pm_H) (kind len k j : Nat) : pm_is (pm_new M kind len) k j = if k = M.1 then 0 else pm_is M k j := rfl
theorem pm_Pic.new {τ : pm_T} {cl : List vw_C} {acs : List Nat} {D : va_G} {cA : Nat → ClassId} {base : Nat} {M : pm_H} {H H' : Heap} {kind len : Nat} (h : pm_Pic τ cl acs D cA base M H) (hz : H'.size = H.size + 1) (hq : ∀ q, q < H.size → H'[q]? = H[q]?) (hat : pm_at τ cl acs D cA base (pm_new M kind len) H' M.1) : pm_Pic τ cl acs D cA base (pm_new M kind len) H' := by
  refine ⟨by rw [hz, h.1]; rfl, fun a ha => ?_, fun a => ?_⟩
  · have ha : M.1 + 1 ≤ a := ha
    rw [pm_new_k, if_neg (by omega)]
    exact h.2.1 a (by omega)
  · rcases Nat.lt_trichotomy a M.1 with e | e | e
    · exact pm_at_keep (h.2.2 a) (hq _ (by rw [h.1]; omega)) (by rw [pm_new_k, if_neg (by omega)]) (fun j => by rw [pm_new_r, if_neg (by omega)]) (fun j => by rw [pm_new_i, if_neg (by omega)])
    · subst e; exact hat
    · have hk : (pm_k (pm_new M kind len) a).1 = 0 := by rw [pm_new_k, if_neg (by omega)]; exact h.2.1 a (by omega)
      refine ⟨fun c n e => ?_, fun n e => ?_, fun c n e => ?_⟩ <;> (rw [e] at hk; dsimp only at hk; omega)
