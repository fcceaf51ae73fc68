section PMI
variable {xl : Nat} {xs : Nat → Int32}
theorem eX0_init_0 {x : Nat} {M : pm_H} : pm_ev tb xl xs mX0_init 0 [some (.ref x)] [] M = pm_ev tb xl xs mX0_init 1 [some (.ref x)] [.ref x] M := ev_aload_n rfl dX0_init_0
theorem eX0_init_1 {l0 : Option Value} {o : Nat} {M : pm_H} : pm_ev tb xl xs mX0_init 1 [l0] [.ref o] M = pm_ev tb xl xs mX0_init 4 [l0] [] M := ev_oinit lkc_0_1 ⟨Nat.le_of_ble_eq_true rfl, Nat.le_of_ble_eq_true rfl⟩ dX0_init_1
theorem eX0_init_4 {l0 : Option Value} {M : pm_H} : pm_ev tb xl xs mX0_init 4 [l0] [] M = some (none, M) := ev_ret rfl dX0_init_4
theorem eX0_copyFrom_0 {l1 : Option Value} {x : Nat} {M : pm_H} : pm_ev tb xl xs mX0_copyFrom 0 [some (.ref x), l1] [] M = pm_ev tb xl xs mX0_copyFrom 1 [some (.ref x), l1] [.ref x] M := ev_aload_n rfl dX0_copyFrom_0
theorem eX0_copyFrom_1 {l0 : Option Value} {s0 : Value} {x : Nat} {M : pm_H} : pm_ev tb xl xs mX0_copyFrom 1 [l0, some (.ref x)] [s0] M = pm_ev tb xl xs mX0_copyFrom 2 [l0, some (.ref x)] [.ref x, s0] M := ev_aload_n rfl dX0_copyFrom_1
theorem eX0_copyFrom_2 {l0 l1 : Option Value} {s1 : Value} {o : Nat} {M : pm_H} (h : (pm_k M o).1 = 2) : pm_ev tb xl xs mX0_copyFrom 2 [l0, l1] [.ref o, s1] M = pm_ev tb xl xs mX0_copyFrom 5 [l0, l1] [.int (pm_is M o 0), s1] M := ev_getI lkf_0_7 (by decide) h dX0_copyFrom_2
theorem eX0_copyFrom_5 {l0 l1 : Option Value} {v : Int32} {o : Nat} {M : pm_H} (h : (pm_k M o).1 = 2) : pm_ev tb xl xs mX0_copyFrom 5 [l0, l1] [.int v, .ref o] M = pm_ev tb xl xs mX0_copyFrom 8 [l0, l1] [] (pm_setI M o 0 v) := ev_putI lkf_0_7 rfl h dX0_copyFrom_5
theorem eX0_copyFrom_8 {l1 : Option Value} {x : Nat} {M : pm_H} : pm_ev tb xl xs mX0_copyFrom 8 [some (.ref x), l1] [] M = pm_ev tb xl xs mX0_copyFrom 9 [some (.ref x), l1] [.ref x] M := ev_aload_n rfl dX0_copyFrom_8
theorem eX0_copyFrom_9 {l0 : Option Value} {s0 : Value} {x : Nat} {M : pm_H} : pm_ev tb xl xs mX0_copyFrom 9 [l0, some (.ref x)] [s0] M = pm_ev tb xl xs mX0_copyFrom 10 [l0, some (.ref x)] [.ref x, s0] M := ev_aload_n rfl dX0_copyFrom_9
theorem eX0_copyFrom_10 {l0 l1 : Option Value} {s1 : Value} {o : Nat} {M : pm_H} (h : (pm_k M o).1 = 2) : pm_ev tb xl xs mX0_copyFrom 10 [l0, l1] [.ref o, s1] M = pm_ev tb xl xs mX0_copyFrom 13 [l0, l1] [.int (pm_is M o 1), s1] M := ev_getI lkf_0_13 (by decide) h dX0_copyFrom_10
theorem eX0_copyFrom_13 {l0 l1 : Option Value} {v : Int32} {o : Nat} {M : pm_H} (h : (pm_k M o).1 = 2) : pm_ev tb xl xs mX0_copyFrom 13 [l0, l1] [.int v, .ref o] M = pm_ev tb xl xs mX0_copyFrom 16 [l0, l1] [] (pm_setI M o 1 v) := ev_putI lkf_0_13 rfl h dX0_copyFrom_13
theorem eX0_copyFrom_16 {l1 : Option Value} {x : Nat} {M : pm_H} : pm_ev tb xl xs mX0_copyFrom 16 [some (.ref x), l1] [] M = pm_ev tb xl xs mX0_copyFrom 17 [some (.ref x), l1] [.ref x] M := ev_aload_n rfl dX0_copyFrom_16
theorem eX0_copyFrom_17 {l0 : Option Value} {s0 : Value} {x : Nat} {M : pm_H} : pm_ev tb xl xs mX0_copyFrom 17 [l0, some (.ref x)] [s0] M = pm_ev tb xl xs mX0_copyFrom 18 [l0, some (.ref x)] [.ref x, s0] M := ev_aload_n rfl dX0_copyFrom_17
theorem eX0_copyFrom_18 {l0 l1 : Option Value} {s1 : Value} {o : Nat} {M : pm_H} (h : (pm_k M o).1 = 2) : pm_ev tb xl xs mX0_copyFrom 18 [l0, l1] [.ref o, s1] M = pm_ev tb xl xs mX0_copyFrom 21 [l0, l1] [.int (pm_is M o 2), s1] M := ev_getI lkf_0_16 (by decide) h dX0_copyFrom_18
theorem eX0_copyFrom_21 {l0 l1 : Option Value} {v : Int32} {o : Nat} {M : pm_H} (h : (pm_k M o).1 = 2) : pm_ev tb xl xs mX0_copyFrom 21 [l0, l1] [.int v, .ref o] M = pm_ev tb xl xs mX0_copyFrom 24 [l0, l1] [] (pm_setI M o 2 v) := ev_putI lkf_0_16 rfl h dX0_copyFrom_21
theorem eX0_copyFrom_24 {l0 l1 : Option Value} {M : pm_H} : pm_ev tb xl xs mX0_copyFrom 24 [l0, l1] [] M = some (none, M) := ev_ret rfl dX0_copyFrom_24
end PMI
