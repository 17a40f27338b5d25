/-! the constructors -/
abbrev ar (t : ClassId) (n : Nat) : va_E := .inl (t, n, .inl fun _ => 0)
def PI (D : va_G) (tI tB : ClassId) (h0 : Nat) (e : va_E) (sz : Nat) : State → Prop := fun U => U.heap.size = sz ∧ va_P D xjCl [(h0, e)] U.heap ∧ va_K D xjCl [(tI, .int)] U ∧ NW U
abbrev rmI (d mc ms : Nat) : Room := { frames := d + 1, cells := mc, slots := ms, locals := 42 * (d + 1) }
abbrev PQ (D : va_G) (h0 : Nat) (e : va_E) (sz : Nat) : va_W → State → Prop := fun w t => va_P D xjCl w t.heap ∧ va_D (va_A [(h0, e)] sz) w
theorem D_one (h0 : Nat) (e : va_E) (sz : Nat) : va_D (va_A [(h0, e)] sz) [(h0, e)] := by
  refine ⟨fun i j p q hi hj he => ?_, fun k q hk => va_A.in hk⟩
  have h1 := (List.getElem?_eq_some_iff.mp hi).1
  have h2 := (List.getElem?_eq_some_iff.mp hj).1
  simp at h1 h2
  omega
theorem tI_eq {D : va_G} {tI cA : ClassId} {s : State} (h : va_K D xjCl ([(tI, .int)] ++ [(cA, .int)]) s) : cA = tI := by
  have h1 := (h.2 0 (tI, .int) rfl).2
  have h2 := (h.2 1 (cA, .int) rfl).2
  exact Option.some.inj (h2.symm.trans h1)
theorem xa_newi {p : Program} {l : Launch} {e : Env} {R : Room} {s : State} {m : MethodId} {args : Array Value} {below : List Frame} {meth : Method} {c : Code} {Q : State → Prop} {cc : ByteArray} {pc : Nat} {ls : Array Slot} {rest : List Value} {D : va_G} {A : Nat → Prop} {H0 H : Heap} {locs : List Loc} {cells slots : Nat} {ws : va_W} {tI : ClassId} (hexec : p.tables.exec = Jvm.exec) (hb : c.code = cc) (htw : ∀ w ∈ wT, w.before args s = true) (hK : va_K D xjCl [(tI, .int)] s) (hP : va_P D xjCl ws H) (hD : va_D A ws) (hS : va_S A H0 H locs) (hA : ∀ q, H0.size ≤ q → A q) {n : Int32} {N' : Nat} (hn : ¬ n < 0) (hN : n.toNatClampNeg = N') (hbytes : N' * componentBytes .int ≤ 536870912) (hcells : cells + 1 ≤ R.cells) (hslots : slots + N' ≤ R.slots) (hdg : decode cc pc = .ok (.newarray .int, 2))
    (kk : ∀ (q : Nat) (H1 : Heap), va_P D xjCl (ws ++ [(q, ar tI N')]) H1 → va_D A (ws ++ [(q, ar tI N')]) → va_S A H0 H1 locs → W p l e R s m args below meth c H1 locs (cells + 1) (slots + N') Q (F0 m (pc + 2) ls (.ref q :: rest))) : W p l e R s m args below meth c H locs cells slots Q (F0 m pc ls (.int n :: rest)) := by
  refine va_newa (atype := .int) (a0 := (N', .inl fun _ => 0)) hexec hb (htw _ arr_int) rfl hK hP hD hS hA (fun cA => rfl) hn hN hbytes hcells hslots hdg (fun q cA H1 hK2 hP2 hD2 hS2 => ?_)
  have e := tI_eq hK2
  subst e
  exact kk q H1 hP2 hD2 hS2
def PWX4 (tI tB : ClassId) (h0 : Nat) (w : va_W) : Prop := ∃ q0 : Nat, w = [(h0, .inr (4, [.ref q0, .int 0])), (q0, ar tI 26)]
set_option maxHeartbeats 4000000 in
set_option maxRecDepth 100000 in
theorem ci_X4 (l : Launch) (D : va_G) (tI tB : ClassId) (h0 sz : Nat) : Met l yX4_init (wk kX4_init) (rmI 0 1 26) (va_Pc [.ref h0] (PI D tI tB h0 (.inr (4, [.null, .int 0])) sz)) (va_Qv (PWX4 tI tB h0) (PQ D h0 (.inr (4, [.null, .int 0])) sz) (va_A [(h0, .inr (4, [.null, .int 0]))] sz)) 1 26 (va_A [(h0, .inr (4, [.null, .int 0]))] sz) := by
  refine Met.ofW (cc := cX4_init) (maxL := 1) (ret := none) (by decide) rfl ?_
  intro p e s m args below meth c s₁ B hml hv
  obtain ⟨rfl, hsz, hP, hK, hN⟩ := hv
  have hx := B.exec
  have hb := B.bytes
  have hr := B.returns
  have hts := atoms_spec (ws := wk kX4_init) B.pre
  have htw : ∀ w ∈ wT, w.before _ s = true := fun w hw => hts w (List.mem_cons_of_mem _ hw)
  have hown : s.vm.findClass RX4 = some m.cls := findClass_of_methodNamed B.named
  have hlocks := B.notSynchronized
  have hin : meth.name = "<init>" := (name_of_methodNamed B.named B.method).1
  subst hsz
  have hD := D_one h0 (.inr (4, [.null, .int 0])) s.heap.size
  unfold PQ
  generalize hAe : va_A [(h0, .inr (4, [.null, .int 0]))] s.heap.size = A at hD ⊢
  have hA : ∀ q : Nat, s.heap.size ≤ q → A q := fun q h => by rw [← hAe]; exact Or.inr h
  have hS : va_S A s.heap s.heap [] := va_S.rf
  have hl := lv_entry ([.ref h0]) (n := 1) (Nat.le_of_ble_eq_true rfl)
  rw [lg_entry_eq]
  generalize (lg_sl ([.ref h0]) ++ List.replicate (1 - (lg_sl ([.ref h0])).length) Slot.unset).toArray = ls at hl ⊢
  have hl : lv_has ls 1 [(0, .ref h0)] := hl
  refine lv_aload_n hx hb dX4_init_0 rfl (lv_at hl 0 rfl) ?_
  refine W.objInit hx hb hown (htw _ ml_X4_3) (htw _ ima_objectInit) (htw _ co_objectInit) rfl (by rw [hml]; exact hl.1) rfl dX4_init_1 (Nat.le_of_ble_eq_true rfl) (Nat.le_of_ble_eq_true rfl) ?_
  refine W.eq (g2 := F0 m 4 ls []) rfl ?_
  refine lv_aload_n hx hb dX4_init_4 rfl (lv_at hl 0 rfl) ?_
  refine lv_bipush (v := 26) hx hb dX4_init_5 (by decide) ?_
  refine xa_newi (N' := 26) hx hb htw hK hP hD hS hA (by decide) (by decide) (Nat.le_of_ble_eq_true rfl) (Nat.le_of_ble_eq_true rfl) (Nat.le_of_ble_eq_true rfl) dX4_init_7 (fun q0 H hP hD hS => ?_)
  have hP : va_P D xjCl [(h0, .inr (4, [.null, .int 0])), (q0, ar tI 26)] H := hP
  have hD : va_D A [(h0, .inr (4, [.null, .int 0])), (q0, ar tI 26)] := hD
  refine va_putF (D := D) (ci := 4) (v := .ref q0) (ty := .array .int) (C := RX4) (T := TX4) (N := 2) hx hb htw inX4 tyX4 tyX4_ok nmX4 hown hK hP hD hS 0 rfl rfl 0 (by decide) (htw _ fl_X4_9) (fun _ h9 => h9) rfl hin rfl (by decide +kernel) rfl rfl (Nat.le_of_ble_eq_true rfl) dX4_init_9 (fun H locs hP hD hS => ?_)
  have hP : va_P D xjCl [(h0, .inr (4, [.ref q0, .int 0])), (q0, ar tI 26)] H := hP
  have hD : va_D A [(h0, .inr (4, [.ref q0, .int 0])), (q0, ar tI 26)] := hD
  refine W.widen (k := 1) (n := 26) (Nat.le_of_ble_eq_true rfl) (Nat.le_of_ble_eq_true rfl) ?_
  exact W.vret hx hb hr (fun t ht hW => ⟨⟨[(h0, .inr (4, [.ref q0, .int 0])), (q0, ar tI 26)], rfl, ⟨q0, rfl⟩, by rw [ht]; exact hP, hD⟩, hS.F ht⟩) hS.2.2 dX4_init_12
def PWX5 (tI tB : ClassId) (h0 : Nat) (w : va_W) : Prop := ∃ q0 q1 q2 q3 q4 q5 q6 q7 q8 q9 q10 : Nat, w = [(h0, .inr (5, [.ref q0, .ref q1, .ref q2, .ref q3, .ref q4, .ref q5, .ref q6, .ref q7, .ref q8, .ref q9, .ref q10, .int 0, .int 0, .int 0, .int 0])), (q0, ar tI 6), (q1, ar tI 6), (q2, ar tI 6), (q3, ar tI 6), (q4, ar tI 6), (q5, ar tI 3), (q6, ar tI 3), (q7, ar tI 8), (q8, ar tI 8), (q9, ar tI 8), (q10, ar tI 10)]
set_option maxHeartbeats 4000000 in
set_option maxRecDepth 100000 in
theorem ci_X5 (l : Launch) (D : va_G) (tI tB : ClassId) (h0 sz : Nat) : Met l yX5_init (wk kX5_init) (rmI 0 11 70) (va_Pc [.ref h0] (PI D tI tB h0 (.inr (5, [.null, .null, .null, .null, .null, .null, .null, .null, .null, .null, .null, .int 0, .int 0, .int 0, .int 0])) sz)) (va_Qv (PWX5 tI tB h0) (PQ D h0 (.inr (5, [.null, .null, .null, .null, .null, .null, .null, .null, .null, .null, .null, .int 0, .int 0, .int 0, .int 0])) sz) (va_A [(h0, .inr (5, [.null, .null, .null, .null, .null, .null, .null, .null, .null, .null, .null, .int 0, .int 0, .int 0, .int 0]))] sz)) 11 70 (va_A [(h0, .inr (5, [.null, .null, .null, .null, .null, .null, .null, .null, .null, .null, .null, .int 0, .int 0, .int 0, .int 0]))] sz) := by
  refine Met.ofW (cc := cX5_init) (maxL := 1) (ret := none) (by decide) rfl ?_
  intro p e s m args below meth c s₁ B hml hv
  obtain ⟨rfl, hsz, hP, hK, hN⟩ := hv
  have hx := B.exec
  have hb := B.bytes
  have hr := B.returns
  have hts := atoms_spec (ws := wk kX5_init) B.pre
  have htw : ∀ w ∈ wT, w.before _ s = true := fun w hw => hts w (List.mem_cons_of_mem _ hw)
  have hown : s.vm.findClass RX5 = some m.cls := findClass_of_methodNamed B.named
  have hlocks := B.notSynchronized
  have hin : meth.name = "<init>" := (name_of_methodNamed B.named B.method).1
  subst hsz
  have hD := D_one h0 (.inr (5, [.null, .null, .null, .null, .null, .null, .null, .null, .null, .null, .null, .int 0, .int 0, .int 0, .int 0])) s.heap.size
  unfold PQ
  generalize hAe : va_A [(h0, .inr (5, [.null, .null, .null, .null, .null, .null, .null, .null, .null, .null, .null, .int 0, .int 0, .int 0, .int 0]))] s.heap.size = A at hD ⊢
  have hA : ∀ q : Nat, s.heap.size ≤ q → A q := fun q h => by rw [← hAe]; exact Or.inr h
  have hS : va_S A s.heap s.heap [] := va_S.rf
  have hl := lv_entry ([.ref h0]) (n := 1) (Nat.le_of_ble_eq_true rfl)
  rw [lg_entry_eq]
  generalize (lg_sl ([.ref h0]) ++ List.replicate (1 - (lg_sl ([.ref h0])).length) Slot.unset).toArray = ls at hl ⊢
  have hl : lv_has ls 1 [(0, .ref h0)] := hl
  refine lv_aload_n hx hb dX5_init_0 rfl (lv_at hl 0 rfl) ?_
  refine W.objInit hx hb hown (htw _ ml_X5_3) (htw _ ima_objectInit) (htw _ co_objectInit) rfl (by rw [hml]; exact hl.1) rfl dX5_init_1 (Nat.le_of_ble_eq_true rfl) (Nat.le_of_ble_eq_true rfl) ?_
  refine W.eq (g2 := F0 m 4 ls []) rfl ?_
  refine lv_aload_n hx hb dX5_init_4 rfl (lv_at hl 0 rfl) ?_
  refine lv_bipush (v := 6) hx hb dX5_init_5 (by decide) ?_
  refine xa_newi (N' := 6) hx hb htw hK hP hD hS hA (by decide) (by decide) (Nat.le_of_ble_eq_true rfl) (Nat.le_of_ble_eq_true rfl) (Nat.le_of_ble_eq_true rfl) dX5_init_7 (fun q0 H hP hD hS => ?_)
  have hP : va_P D xjCl [(h0, .inr (5, [.null, .null, .null, .null, .null, .null, .null, .null, .null, .null, .null, .int 0, .int 0, .int 0, .int 0])), (q0, ar tI 6)] H := hP
  have hD : va_D A [(h0, .inr (5, [.null, .null, .null, .null, .null, .null, .null, .null, .null, .null, .null, .int 0, .int 0, .int 0, .int 0])), (q0, ar tI 6)] := hD
  refine va_putF (D := D) (ci := 5) (v := .ref q0) (ty := .array .int) (C := RX5) (T := TX5) (N := 15) hx hb htw inX5 tyX5 tyX5_ok nmX5 hown hK hP hD hS 0 rfl rfl 0 (by decide) (htw _ fl_X5_9) (fun _ h9 => h9) rfl hin rfl (by decide +kernel) rfl rfl (Nat.le_of_ble_eq_true rfl) dX5_init_9 (fun H locs hP hD hS => ?_)
  have hP : va_P D xjCl [(h0, .inr (5, [.ref q0, .null, .null, .null, .null, .null, .null, .null, .null, .null, .null, .int 0, .int 0, .int 0, .int 0])), (q0, ar tI 6)] H := hP
  have hD : va_D A [(h0, .inr (5, [.ref q0, .null, .null, .null, .null, .null, .null, .null, .null, .null, .null, .int 0, .int 0, .int 0, .int 0])), (q0, ar tI 6)] := hD
  refine lv_aload_n hx hb dX5_init_12 rfl (lv_at hl 0 rfl) ?_
  refine lv_bipush (v := 6) hx hb dX5_init_13 (by decide) ?_
  refine xa_newi (N' := 6) hx hb htw hK hP hD hS hA (by decide) (by decide) (Nat.le_of_ble_eq_true rfl) (Nat.le_of_ble_eq_true rfl) (Nat.le_of_ble_eq_true rfl) dX5_init_15 (fun q1 H hP hD hS => ?_)
  have hP : va_P D xjCl [(h0, .inr (5, [.ref q0, .null, .null, .null, .null, .null, .null, .null, .null, .null, .null, .int 0, .int 0, .int 0, .int 0])), (q0, ar tI 6), (q1, ar tI 6)] H := hP
  have hD : va_D A [(h0, .inr (5, [.ref q0, .null, .null, .null, .null, .null, .null, .null, .null, .null, .null, .int 0, .int 0, .int 0, .int 0])), (q0, ar tI 6), (q1, ar tI 6)] := hD
  refine va_putF (D := D) (ci := 5) (v := .ref q1) (ty := .array .int) (C := RX5) (T := TX5) (N := 15) hx hb htw inX5 tyX5 tyX5_ok nmX5 hown hK hP hD hS 0 rfl rfl 1 (by decide) (htw _ fl_X5_15) (fun _ h9 => h9) rfl hin rfl (by decide +kernel) rfl rfl (Nat.le_of_ble_eq_true rfl) dX5_init_17 (fun H locs hP hD hS => ?_)
  have hP : va_P D xjCl [(h0, .inr (5, [.ref q0, .ref q1, .null, .null, .null, .null, .null, .null, .null, .null, .null, .int 0, .int 0, .int 0, .int 0])), (q0, ar tI 6), (q1, ar tI 6)] H := hP
  have hD : va_D A [(h0, .inr (5, [.ref q0, .ref q1, .null, .null, .null, .null, .null, .null, .null, .null, .null, .int 0, .int 0, .int 0, .int 0])), (q0, ar tI 6), (q1, ar tI 6)] := hD
  refine lv_aload_n hx hb dX5_init_20 rfl (lv_at hl 0 rfl) ?_
  refine lv_bipush (v := 6) hx hb dX5_init_21 (by decide) ?_
  refine xa_newi (N' := 6) hx hb htw hK hP hD hS hA (by decide) (by decide) (Nat.le_of_ble_eq_true rfl) (Nat.le_of_ble_eq_true rfl) (Nat.le_of_ble_eq_true rfl) dX5_init_23 (fun q2 H hP hD hS => ?_)
  have hP : va_P D xjCl [(h0, .inr (5, [.ref q0, .ref q1, .null, .null, .null, .null, .null, .null, .null, .null, .null, .int 0, .int 0, .int 0, .int 0])), (q0, ar tI 6), (q1, ar tI 6), (q2, ar tI 6)] H := hP
  have hD : va_D A [(h0, .inr (5, [.ref q0, .ref q1, .null, .null, .null, .null, .null, .null, .null, .null, .null, .int 0, .int 0, .int 0, .int 0])), (q0, ar tI 6), (q1, ar tI 6), (q2, ar tI 6)] := hD
  refine va_putF (D := D) (ci := 5) (v := .ref q2) (ty := .array .int) (C := RX5) (T := TX5) (N := 15) hx hb htw inX5 tyX5 tyX5_ok nmX5 hown hK hP hD hS 0 rfl rfl 2 (by decide) (htw _ fl_X5_18) (fun _ h9 => h9) rfl hin rfl (by decide +kernel) rfl rfl (Nat.le_of_ble_eq_true rfl) dX5_init_25 (fun H locs hP hD hS => ?_)
  have hP : va_P D xjCl [(h0, .inr (5, [.ref q0, .ref q1, .ref q2, .null, .null, .null, .null, .null, .null, .null, .null, .int 0, .int 0, .int 0, .int 0])), (q0, ar tI 6), (q1, ar tI 6), (q2, ar tI 6)] H := hP
  have hD : va_D A [(h0, .inr (5, [.ref q0, .ref q1, .ref q2, .null, .null, .null, .null, .null, .null, .null, .null, .int 0, .int 0, .int 0, .int 0])), (q0, ar tI 6), (q1, ar tI 6), (q2, ar tI 6)] := hD
  refine lv_aload_n hx hb dX5_init_28 rfl (lv_at hl 0 rfl) ?_
  refine lv_bipush (v := 6) hx hb dX5_init_29 (by decide) ?_
  refine xa_newi (N' := 6) hx hb htw hK hP hD hS hA (by decide) (by decide) (Nat.le_of_ble_eq_true rfl) (Nat.le_of_ble_eq_true rfl) (Nat.le_of_ble_eq_true rfl) dX5_init_31 (fun q3 H hP hD hS => ?_)
  have hP : va_P D xjCl [(h0, .inr (5, [.ref q0, .ref q1, .ref q2, .null, .null, .null, .null, .null, .null, .null, .null, .int 0, .int 0, .int 0, .int 0])), (q0, ar tI 6), (q1, ar tI 6), (q2, ar tI 6), (q3, ar tI 6)] H := hP
  have hD : va_D A [(h0, .inr (5, [.ref q0, .ref q1, .ref q2, .null, .null, .null, .null, .null, .null, .null, .null, .int 0, .int 0, .int 0, .int 0])), (q0, ar tI 6), (q1, ar tI 6), (q2, ar tI 6), (q3, ar tI 6)] := hD
  refine va_putF (D := D) (ci := 5) (v := .ref q3) (ty := .array .int) (C := RX5) (T := TX5) (N := 15) hx hb htw inX5 tyX5 tyX5_ok nmX5 hown hK hP hD hS 0 rfl rfl 3 (by decide) (htw _ fl_X5_21) (fun _ h9 => h9) rfl hin rfl (by decide +kernel) rfl rfl (Nat.le_of_ble_eq_true rfl) dX5_init_33 (fun H locs hP hD hS => ?_)
  have hP : va_P D xjCl [(h0, .inr (5, [.ref q0, .ref q1, .ref q2, .ref q3, .null, .null, .null, .null, .null, .null, .null, .int 0, .int 0, .int 0, .int 0])), (q0, ar tI 6), (q1, ar tI 6), (q2, ar tI 6), (q3, ar tI 6)] H := hP
  have hD : va_D A [(h0, .inr (5, [.ref q0, .ref q1, .ref q2, .ref q3, .null, .null, .null, .null, .null, .null, .null, .int 0, .int 0, .int 0, .int 0])), (q0, ar tI 6), (q1, ar tI 6), (q2, ar tI 6), (q3, ar tI 6)] := hD
  refine lv_aload_n hx hb dX5_init_36 rfl (lv_at hl 0 rfl) ?_
  refine lv_bipush (v := 6) hx hb dX5_init_37 (by decide) ?_
  refine xa_newi (N' := 6) hx hb htw hK hP hD hS hA (by decide) (by decide) (Nat.le_of_ble_eq_true rfl) (Nat.le_of_ble_eq_true rfl) (Nat.le_of_ble_eq_true rfl) dX5_init_39 (fun q4 H hP hD hS => ?_)
  have hP : va_P D xjCl [(h0, .inr (5, [.ref q0, .ref q1, .ref q2, .ref q3, .null, .null, .null, .null, .null, .null, .null, .int 0, .int 0, .int 0, .int 0])), (q0, ar tI 6), (q1, ar tI 6), (q2, ar tI 6), (q3, ar tI 6), (q4, ar tI 6)] H := hP
  have hD : va_D A [(h0, .inr (5, [.ref q0, .ref q1, .ref q2, .ref q3, .null, .null, .null, .null, .null, .null, .null, .int 0, .int 0, .int 0, .int 0])), (q0, ar tI 6), (q1, ar tI 6), (q2, ar tI 6), (q3, ar tI 6), (q4, ar tI 6)] := hD
  refine va_putF (D := D) (ci := 5) (v := .ref q4) (ty := .array .int) (C := RX5) (T := TX5) (N := 15) hx hb htw inX5 tyX5 tyX5_ok nmX5 hown hK hP hD hS 0 rfl rfl 4 (by decide) (htw _ fl_X5_24) (fun _ h9 => h9) rfl hin rfl (by decide +kernel) rfl rfl (Nat.le_of_ble_eq_true rfl) dX5_init_41 (fun H locs hP hD hS => ?_)
  have hP : va_P D xjCl [(h0, .inr (5, [.ref q0, .ref q1, .ref q2, .ref q3, .ref q4, .null, .null, .null, .null, .null, .null, .int 0, .int 0, .int 0, .int 0])), (q0, ar tI 6), (q1, ar tI 6), (q2, ar tI 6), (q3, ar tI 6), (q4, ar tI 6)] H := hP
  have hD : va_D A [(h0, .inr (5, [.ref q0, .ref q1, .ref q2, .ref q3, .ref q4, .null, .null, .null, .null, .null, .null, .int 0, .int 0, .int 0, .int 0])), (q0, ar tI 6), (q1, ar tI 6), (q2, ar tI 6), (q3, ar tI 6), (q4, ar tI 6)] := hD
  refine lv_aload_n hx hb dX5_init_44 rfl (lv_at hl 0 rfl) ?_
  refine lv_iconst (v := 3) hx hb dX5_init_45 (by decide) ?_
  refine xa_newi (N' := 3) hx hb htw hK hP hD hS hA (by decide) (by decide) (Nat.le_of_ble_eq_true rfl) (Nat.le_of_ble_eq_true rfl) (Nat.le_of_ble_eq_true rfl) dX5_init_46 (fun q5 H hP hD hS => ?_)
  have hP : va_P D xjCl [(h0, .inr (5, [.ref q0, .ref q1, .ref q2, .ref q3, .ref q4, .null, .null, .null, .null, .null, .null, .int 0, .int 0, .int 0, .int 0])), (q0, ar tI 6), (q1, ar tI 6), (q2, ar tI 6), (q3, ar tI 6), (q4, ar tI 6), (q5, ar tI 3)] H := hP
  have hD : va_D A [(h0, .inr (5, [.ref q0, .ref q1, .ref q2, .ref q3, .ref q4, .null, .null, .null, .null, .null, .null, .int 0, .int 0, .int 0, .int 0])), (q0, ar tI 6), (q1, ar tI 6), (q2, ar tI 6), (q3, ar tI 6), (q4, ar tI 6), (q5, ar tI 3)] := hD
  refine va_putF (D := D) (ci := 5) (v := .ref q5) (ty := .array .int) (C := RX5) (T := TX5) (N := 15) hx hb htw inX5 tyX5 tyX5_ok nmX5 hown hK hP hD hS 0 rfl rfl 5 (by decide) (htw _ fl_X5_27) (fun _ h9 => h9) rfl hin rfl (by decide +kernel) rfl rfl (Nat.le_of_ble_eq_true rfl) dX5_init_48 (fun H locs hP hD hS => ?_)
  have hP : va_P D xjCl [(h0, .inr (5, [.ref q0, .ref q1, .ref q2, .ref q3, .ref q4, .ref q5, .null, .null, .null, .null, .null, .int 0, .int 0, .int 0, .int 0])), (q0, ar tI 6), (q1, ar tI 6), (q2, ar tI 6), (q3, ar tI 6), (q4, ar tI 6), (q5, ar tI 3)] H := hP
  have hD : va_D A [(h0, .inr (5, [.ref q0, .ref q1, .ref q2, .ref q3, .ref q4, .ref q5, .null, .null, .null, .null, .null, .int 0, .int 0, .int 0, .int 0])), (q0, ar tI 6), (q1, ar tI 6), (q2, ar tI 6), (q3, ar tI 6), (q4, ar tI 6), (q5, ar tI 3)] := hD
  refine lv_aload_n hx hb dX5_init_51 rfl (lv_at hl 0 rfl) ?_
  refine lv_iconst (v := 3) hx hb dX5_init_52 (by decide) ?_
  refine xa_newi (N' := 3) hx hb htw hK hP hD hS hA (by decide) (by decide) (Nat.le_of_ble_eq_true rfl) (Nat.le_of_ble_eq_true rfl) (Nat.le_of_ble_eq_true rfl) dX5_init_53 (fun q6 H hP hD hS => ?_)
  have hP : va_P D xjCl [(h0, .inr (5, [.ref q0, .ref q1, .ref q2, .ref q3, .ref q4, .ref q5, .null, .null, .null, .null, .null, .int 0, .int 0, .int 0, .int 0])), (q0, ar tI 6), (q1, ar tI 6), (q2, ar tI 6), (q3, ar tI 6), (q4, ar tI 6), (q5, ar tI 3), (q6, ar tI 3)] H := hP
  have hD : va_D A [(h0, .inr (5, [.ref q0, .ref q1, .ref q2, .ref q3, .ref q4, .ref q5, .null, .null, .null, .null, .null, .int 0, .int 0, .int 0, .int 0])), (q0, ar tI 6), (q1, ar tI 6), (q2, ar tI 6), (q3, ar tI 6), (q4, ar tI 6), (q5, ar tI 3), (q6, ar tI 3)] := hD
  refine va_putF (D := D) (ci := 5) (v := .ref q6) (ty := .array .int) (C := RX5) (T := TX5) (N := 15) hx hb htw inX5 tyX5 tyX5_ok nmX5 hown hK hP hD hS 0 rfl rfl 6 (by decide) (htw _ fl_X5_30) (fun _ h9 => h9) rfl hin rfl (by decide +kernel) rfl rfl (Nat.le_of_ble_eq_true rfl) dX5_init_55 (fun H locs hP hD hS => ?_)
  have hP : va_P D xjCl [(h0, .inr (5, [.ref q0, .ref q1, .ref q2, .ref q3, .ref q4, .ref q5, .ref q6, .null, .null, .null, .null, .int 0, .int 0, .int 0, .int 0])), (q0, ar tI 6), (q1, ar tI 6), (q2, ar tI 6), (q3, ar tI 6), (q4, ar tI 6), (q5, ar tI 3), (q6, ar tI 3)] H := hP
  have hD : va_D A [(h0, .inr (5, [.ref q0, .ref q1, .ref q2, .ref q3, .ref q4, .ref q5, .ref q6, .null, .null, .null, .null, .int 0, .int 0, .int 0, .int 0])), (q0, ar tI 6), (q1, ar tI 6), (q2, ar tI 6), (q3, ar tI 6), (q4, ar tI 6), (q5, ar tI 3), (q6, ar tI 3)] := hD
  refine lv_aload_n hx hb dX5_init_58 rfl (lv_at hl 0 rfl) ?_
  refine lv_bipush (v := 8) hx hb dX5_init_59 (by decide) ?_
  refine xa_newi (N' := 8) hx hb htw hK hP hD hS hA (by decide) (by decide) (Nat.le_of_ble_eq_true rfl) (Nat.le_of_ble_eq_true rfl) (Nat.le_of_ble_eq_true rfl) dX5_init_61 (fun q7 H hP hD hS => ?_)
  have hP : va_P D xjCl [(h0, .inr (5, [.ref q0, .ref q1, .ref q2, .ref q3, .ref q4, .ref q5, .ref q6, .null, .null, .null, .null, .int 0, .int 0, .int 0, .int 0])), (q0, ar tI 6), (q1, ar tI 6), (q2, ar tI 6), (q3, ar tI 6), (q4, ar tI 6), (q5, ar tI 3), (q6, ar tI 3), (q7, ar tI 8)] H := hP
  have hD : va_D A [(h0, .inr (5, [.ref q0, .ref q1, .ref q2, .ref q3, .ref q4, .ref q5, .ref q6, .null, .null, .null, .null, .int 0, .int 0, .int 0, .int 0])), (q0, ar tI 6), (q1, ar tI 6), (q2, ar tI 6), (q3, ar tI 6), (q4, ar tI 6), (q5, ar tI 3), (q6, ar tI 3), (q7, ar tI 8)] := hD
  refine va_putF (D := D) (ci := 5) (v := .ref q7) (ty := .array .int) (C := RX5) (T := TX5) (N := 15) hx hb htw inX5 tyX5 tyX5_ok nmX5 hown hK hP hD hS 0 rfl rfl 7 (by decide) (htw _ fl_X5_33) (fun _ h9 => h9) rfl hin rfl (by decide +kernel) rfl rfl (Nat.le_of_ble_eq_true rfl) dX5_init_63 (fun H locs hP hD hS => ?_)
  have hP : va_P D xjCl [(h0, .inr (5, [.ref q0, .ref q1, .ref q2, .ref q3, .ref q4, .ref q5, .ref q6, .ref q7, .null, .null, .null, .int 0, .int 0, .int 0, .int 0])), (q0, ar tI 6), (q1, ar tI 6), (q2, ar tI 6), (q3, ar tI 6), (q4, ar tI 6), (q5, ar tI 3), (q6, ar tI 3), (q7, ar tI 8)] H := hP
  have hD : va_D A [(h0, .inr (5, [.ref q0, .ref q1, .ref q2, .ref q3, .ref q4, .ref q5, .ref q6, .ref q7, .null, .null, .null, .int 0, .int 0, .int 0, .int 0])), (q0, ar tI 6), (q1, ar tI 6), (q2, ar tI 6), (q3, ar tI 6), (q4, ar tI 6), (q5, ar tI 3), (q6, ar tI 3), (q7, ar tI 8)] := hD
  refine lv_aload_n hx hb dX5_init_66 rfl (lv_at hl 0 rfl) ?_
  refine lv_bipush (v := 8) hx hb dX5_init_67 (by decide) ?_
  refine xa_newi (N' := 8) hx hb htw hK hP hD hS hA (by decide) (by decide) (Nat.le_of_ble_eq_true rfl) (Nat.le_of_ble_eq_true rfl) (Nat.le_of_ble_eq_true rfl) dX5_init_69 (fun q8 H hP hD hS => ?_)
  have hP : va_P D xjCl [(h0, .inr (5, [.ref q0, .ref q1, .ref q2, .ref q3, .ref q4, .ref q5, .ref q6, .ref q7, .null, .null, .null, .int 0, .int 0, .int 0, .int 0])), (q0, ar tI 6), (q1, ar tI 6), (q2, ar tI 6), (q3, ar tI 6), (q4, ar tI 6), (q5, ar tI 3), (q6, ar tI 3), (q7, ar tI 8), (q8, ar tI 8)] H := hP
  have hD : va_D A [(h0, .inr (5, [.ref q0, .ref q1, .ref q2, .ref q3, .ref q4, .ref q5, .ref q6, .ref q7, .null, .null, .null, .int 0, .int 0, .int 0, .int 0])), (q0, ar tI 6), (q1, ar tI 6), (q2, ar tI 6), (q3, ar tI 6), (q4, ar tI 6), (q5, ar tI 3), (q6, ar tI 3), (q7, ar tI 8), (q8, ar tI 8)] := hD
  refine va_putF (D := D) (ci := 5) (v := .ref q8) (ty := .array .int) (C := RX5) (T := TX5) (N := 15) hx hb htw inX5 tyX5 tyX5_ok nmX5 hown hK hP hD hS 0 rfl rfl 8 (by decide) (htw _ fl_X5_36) (fun _ h9 => h9) rfl hin rfl (by decide +kernel) rfl rfl (Nat.le_of_ble_eq_true rfl) dX5_init_71 (fun H locs hP hD hS => ?_)
  have hP : va_P D xjCl [(h0, .inr (5, [.ref q0, .ref q1, .ref q2, .ref q3, .ref q4, .ref q5, .ref q6, .ref q7, .ref q8, .null, .null, .int 0, .int 0, .int 0, .int 0])), (q0, ar tI 6), (q1, ar tI 6), (q2, ar tI 6), (q3, ar tI 6), (q4, ar tI 6), (q5, ar tI 3), (q6, ar tI 3), (q7, ar tI 8), (q8, ar tI 8)] H := hP
  have hD : va_D A [(h0, .inr (5, [.ref q0, .ref q1, .ref q2, .ref q3, .ref q4, .ref q5, .ref q6, .ref q7, .ref q8, .null, .null, .int 0, .int 0, .int 0, .int 0])), (q0, ar tI 6), (q1, ar tI 6), (q2, ar tI 6), (q3, ar tI 6), (q4, ar tI 6), (q5, ar tI 3), (q6, ar tI 3), (q7, ar tI 8), (q8, ar tI 8)] := hD
  refine lv_aload_n hx hb dX5_init_74 rfl (lv_at hl 0 rfl) ?_
  refine lv_bipush (v := 8) hx hb dX5_init_75 (by decide) ?_
  refine xa_newi (N' := 8) hx hb htw hK hP hD hS hA (by decide) (by decide) (Nat.le_of_ble_eq_true rfl) (Nat.le_of_ble_eq_true rfl) (Nat.le_of_ble_eq_true rfl) dX5_init_77 (fun q9 H hP hD hS => ?_)
  have hP : va_P D xjCl [(h0, .inr (5, [.ref q0, .ref q1, .ref q2, .ref q3, .ref q4, .ref q5, .ref q6, .ref q7, .ref q8, .null, .null, .int 0, .int 0, .int 0, .int 0])), (q0, ar tI 6), (q1, ar tI 6), (q2, ar tI 6), (q3, ar tI 6), (q4, ar tI 6), (q5, ar tI 3), (q6, ar tI 3), (q7, ar tI 8), (q8, ar tI 8), (q9, ar tI 8)] H := hP
  have hD : va_D A [(h0, .inr (5, [.ref q0, .ref q1, .ref q2, .ref q3, .ref q4, .ref q5, .ref q6, .ref q7, .ref q8, .null, .null, .int 0, .int 0, .int 0, .int 0])), (q0, ar tI 6), (q1, ar tI 6), (q2, ar tI 6), (q3, ar tI 6), (q4, ar tI 6), (q5, ar tI 3), (q6, ar tI 3), (q7, ar tI 8), (q8, ar tI 8), (q9, ar tI 8)] := hD
  refine va_putF (D := D) (ci := 5) (v := .ref q9) (ty := .array .int) (C := RX5) (T := TX5) (N := 15) hx hb htw inX5 tyX5 tyX5_ok nmX5 hown hK hP hD hS 0 rfl rfl 9 (by decide) (htw _ fl_X5_39) (fun _ h9 => h9) rfl hin rfl (by decide +kernel) rfl rfl (Nat.le_of_ble_eq_true rfl) dX5_init_79 (fun H locs hP hD hS => ?_)
  have hP : va_P D xjCl [(h0, .inr (5, [.ref q0, .ref q1, .ref q2, .ref q3, .ref q4, .ref q5, .ref q6, .ref q7, .ref q8, .ref q9, .null, .int 0, .int 0, .int 0, .int 0])), (q0, ar tI 6), (q1, ar tI 6), (q2, ar tI 6), (q3, ar tI 6), (q4, ar tI 6), (q5, ar tI 3), (q6, ar tI 3), (q7, ar tI 8), (q8, ar tI 8), (q9, ar tI 8)] H := hP
  have hD : va_D A [(h0, .inr (5, [.ref q0, .ref q1, .ref q2, .ref q3, .ref q4, .ref q5, .ref q6, .ref q7, .ref q8, .ref q9, .null, .int 0, .int 0, .int 0, .int 0])), (q0, ar tI 6), (q1, ar tI 6), (q2, ar tI 6), (q3, ar tI 6), (q4, ar tI 6), (q5, ar tI 3), (q6, ar tI 3), (q7, ar tI 8), (q8, ar tI 8), (q9, ar tI 8)] := hD
  refine lv_aload_n hx hb dX5_init_82 rfl (lv_at hl 0 rfl) ?_
  refine lv_bipush (v := 10) hx hb dX5_init_83 (by decide) ?_
  refine xa_newi (N' := 10) hx hb htw hK hP hD hS hA (by decide) (by decide) (Nat.le_of_ble_eq_true rfl) (Nat.le_of_ble_eq_true rfl) (Nat.le_of_ble_eq_true rfl) dX5_init_85 (fun q10 H hP hD hS => ?_)
  have hP : va_P D xjCl [(h0, .inr (5, [.ref q0, .ref q1, .ref q2, .ref q3, .ref q4, .ref q5, .ref q6, .ref q7, .ref q8, .ref q9, .null, .int 0, .int 0, .int 0, .int 0])), (q0, ar tI 6), (q1, ar tI 6), (q2, ar tI 6), (q3, ar tI 6), (q4, ar tI 6), (q5, ar tI 3), (q6, ar tI 3), (q7, ar tI 8), (q8, ar tI 8), (q9, ar tI 8), (q10, ar tI 10)] H := hP
  have hD : va_D A [(h0, .inr (5, [.ref q0, .ref q1, .ref q2, .ref q3, .ref q4, .ref q5, .ref q6, .ref q7, .ref q8, .ref q9, .null, .int 0, .int 0, .int 0, .int 0])), (q0, ar tI 6), (q1, ar tI 6), (q2, ar tI 6), (q3, ar tI 6), (q4, ar tI 6), (q5, ar tI 3), (q6, ar tI 3), (q7, ar tI 8), (q8, ar tI 8), (q9, ar tI 8), (q10, ar tI 10)] := hD
  refine va_putF (D := D) (ci := 5) (v := .ref q10) (ty := .array .int) (C := RX5) (T := TX5) (N := 15) hx hb htw inX5 tyX5 tyX5_ok nmX5 hown hK hP hD hS 0 rfl rfl 10 (by decide) (htw _ fl_X5_42) (fun _ h9 => h9) rfl hin rfl (by decide +kernel) rfl rfl (Nat.le_of_ble_eq_true rfl) dX5_init_87 (fun H locs hP hD hS => ?_)
  have hP : va_P D xjCl [(h0, .inr (5, [.ref q0, .ref q1, .ref q2, .ref q3, .ref q4, .ref q5, .ref q6, .ref q7, .ref q8, .ref q9, .ref q10, .int 0, .int 0, .int 0, .int 0])), (q0, ar tI 6), (q1, ar tI 6), (q2, ar tI 6), (q3, ar tI 6), (q4, ar tI 6), (q5, ar tI 3), (q6, ar tI 3), (q7, ar tI 8), (q8, ar tI 8), (q9, ar tI 8), (q10, ar tI 10)] H := hP
  have hD : va_D A [(h0, .inr (5, [.ref q0, .ref q1, .ref q2, .ref q3, .ref q4, .ref q5, .ref q6, .ref q7, .ref q8, .ref q9, .ref q10, .int 0, .int 0, .int 0, .int 0])), (q0, ar tI 6), (q1, ar tI 6), (q2, ar tI 6), (q3, ar tI 6), (q4, ar tI 6), (q5, ar tI 3), (q6, ar tI 3), (q7, ar tI 8), (q8, ar tI 8), (q9, ar tI 8), (q10, ar tI 10)] := hD
  refine W.widen (k := 11) (n := 70) (Nat.le_of_ble_eq_true rfl) (Nat.le_of_ble_eq_true rfl) ?_
  exact W.vret hx hb hr (fun t ht hW => ⟨⟨[(h0, .inr (5, [.ref q0, .ref q1, .ref q2, .ref q3, .ref q4, .ref q5, .ref q6, .ref q7, .ref q8, .ref q9, .ref q10, .int 0, .int 0, .int 0, .int 0])), (q0, ar tI 6), (q1, ar tI 6), (q2, ar tI 6), (q3, ar tI 6), (q4, ar tI 6), (q5, ar tI 3), (q6, ar tI 3), (q7, ar tI 8), (q8, ar tI 8), (q9, ar tI 8), (q10, ar tI 10)], rfl, ⟨q0, q1, q2, q3, q4, q5, q6, q7, q8, q9, q10, rfl⟩, by rw [ht]; exact hP, hD⟩, hS.F ht⟩) hS.2.2 dX5_init_90
def PWX2 (tI tB : ClassId) (h0 : Nat) (w : va_W) : Prop := ∃ q0 q1 q2 q3 : Nat, w = [(h0, .inr (2, [.ref q0, .ref q1, .ref q2, .ref q3, .int 0, .int 0])), (q0, ar tI 192), (q1, ar tI 3), (q2, ar tI 6), (q3, ar tI 6)]
set_option maxHeartbeats 4000000 in
set_option maxRecDepth 100000 in
theorem ci_X2 (l : Launch) (D : va_G) (tI tB : ClassId) (h0 sz : Nat) : Met l yX2_init (wk kX2_init) (rmI 0 4 207) (va_Pc [.ref h0] (PI D tI tB h0 (.inr (2, [.null, .null, .null, .null, .int 0, .int 0])) sz)) (va_Qv (PWX2 tI tB h0) (PQ D h0 (.inr (2, [.null, .null, .null, .null, .int 0, .int 0])) sz) (va_A [(h0, .inr (2, [.null, .null, .null, .null, .int 0, .int 0]))] sz)) 4 207 (va_A [(h0, .inr (2, [.null, .null, .null, .null, .int 0, .int 0]))] sz) := by
  refine Met.ofW (cc := cX2_init) (maxL := 1) (ret := none) (by decide) rfl ?_
  intro p e s m args below meth c s₁ B hml hv
  obtain ⟨rfl, hsz, hP, hK, hN⟩ := hv
  have hx := B.exec
  have hb := B.bytes
  have hr := B.returns
  have hts := atoms_spec (ws := wk kX2_init) B.pre
  have htw : ∀ w ∈ wT, w.before _ s = true := fun w hw => hts w (List.mem_cons_of_mem _ hw)
  have hown : s.vm.findClass RX2 = some m.cls := findClass_of_methodNamed B.named
  have hlocks := B.notSynchronized
  have hin : meth.name = "<init>" := (name_of_methodNamed B.named B.method).1
  subst hsz
  have hD := D_one h0 (.inr (2, [.null, .null, .null, .null, .int 0, .int 0])) s.heap.size
  unfold PQ
  generalize hAe : va_A [(h0, .inr (2, [.null, .null, .null, .null, .int 0, .int 0]))] s.heap.size = A at hD ⊢
  have hA : ∀ q : Nat, s.heap.size ≤ q → A q := fun q h => by rw [← hAe]; exact Or.inr h
  have hS : va_S A s.heap s.heap [] := va_S.rf
  have hl := lv_entry ([.ref h0]) (n := 1) (Nat.le_of_ble_eq_true rfl)
  rw [lg_entry_eq]
  generalize (lg_sl ([.ref h0]) ++ List.replicate (1 - (lg_sl ([.ref h0])).length) Slot.unset).toArray = ls at hl ⊢
  have hl : lv_has ls 1 [(0, .ref h0)] := hl
  refine lv_aload_n hx hb dX2_init_0 rfl (lv_at hl 0 rfl) ?_
  refine W.objInit hx hb hown (htw _ ml_X2_3) (htw _ ima_objectInit) (htw _ co_objectInit) rfl (by rw [hml]; exact hl.1) rfl dX2_init_1 (Nat.le_of_ble_eq_true rfl) (Nat.le_of_ble_eq_true rfl) ?_
  refine W.eq (g2 := F0 m 4 ls []) rfl ?_
  refine lv_aload_n hx hb dX2_init_4 rfl (lv_at hl 0 rfl) ?_
  refine lv_sipush (v := 192) hx hb dX2_init_5 (by decide) ?_
  refine xa_newi (N' := 192) hx hb htw hK hP hD hS hA (by decide) (by decide) (Nat.le_of_ble_eq_true rfl) (Nat.le_of_ble_eq_true rfl) (Nat.le_of_ble_eq_true rfl) dX2_init_8 (fun q0 H hP hD hS => ?_)
  have hP : va_P D xjCl [(h0, .inr (2, [.null, .null, .null, .null, .int 0, .int 0])), (q0, ar tI 192)] H := hP
  have hD : va_D A [(h0, .inr (2, [.null, .null, .null, .null, .int 0, .int 0])), (q0, ar tI 192)] := hD
  refine va_putF (D := D) (ci := 2) (v := .ref q0) (ty := .array .int) (C := RX2) (T := TX2) (N := 6) hx hb htw inX2 tyX2 tyX2_ok nmX2 hown hK hP hD hS 0 rfl rfl 0 (by decide) (htw _ fl_X2_9) (fun _ h9 => h9) rfl hin rfl (by decide +kernel) rfl rfl (Nat.le_of_ble_eq_true rfl) dX2_init_10 (fun H locs hP hD hS => ?_)
  have hP : va_P D xjCl [(h0, .inr (2, [.ref q0, .null, .null, .null, .int 0, .int 0])), (q0, ar tI 192)] H := hP
  have hD : va_D A [(h0, .inr (2, [.ref q0, .null, .null, .null, .int 0, .int 0])), (q0, ar tI 192)] := hD
  refine lv_aload_n hx hb dX2_init_13 rfl (lv_at hl 0 rfl) ?_
  refine lv_iconst (v := 3) hx hb dX2_init_14 (by decide) ?_
  refine xa_newi (N' := 3) hx hb htw hK hP hD hS hA (by decide) (by decide) (Nat.le_of_ble_eq_true rfl) (Nat.le_of_ble_eq_true rfl) (Nat.le_of_ble_eq_true rfl) dX2_init_15 (fun q1 H hP hD hS => ?_)
  have hP : va_P D xjCl [(h0, .inr (2, [.ref q0, .null, .null, .null, .int 0, .int 0])), (q0, ar tI 192), (q1, ar tI 3)] H := hP
  have hD : va_D A [(h0, .inr (2, [.ref q0, .null, .null, .null, .int 0, .int 0])), (q0, ar tI 192), (q1, ar tI 3)] := hD
  refine va_putF (D := D) (ci := 2) (v := .ref q1) (ty := .array .int) (C := RX2) (T := TX2) (N := 6) hx hb htw inX2 tyX2 tyX2_ok nmX2 hown hK hP hD hS 0 rfl rfl 1 (by decide) (htw _ fl_X2_15) (fun _ h9 => h9) rfl hin rfl (by decide +kernel) rfl rfl (Nat.le_of_ble_eq_true rfl) dX2_init_17 (fun H locs hP hD hS => ?_)
  have hP : va_P D xjCl [(h0, .inr (2, [.ref q0, .ref q1, .null, .null, .int 0, .int 0])), (q0, ar tI 192), (q1, ar tI 3)] H := hP
  have hD : va_D A [(h0, .inr (2, [.ref q0, .ref q1, .null, .null, .int 0, .int 0])), (q0, ar tI 192), (q1, ar tI 3)] := hD
  refine lv_aload_n hx hb dX2_init_20 rfl (lv_at hl 0 rfl) ?_
  refine lv_bipush (v := 6) hx hb dX2_init_21 (by decide) ?_
  refine xa_newi (N' := 6) hx hb htw hK hP hD hS hA (by decide) (by decide) (Nat.le_of_ble_eq_true rfl) (Nat.le_of_ble_eq_true rfl) (Nat.le_of_ble_eq_true rfl) dX2_init_23 (fun q2 H hP hD hS => ?_)
  have hP : va_P D xjCl [(h0, .inr (2, [.ref q0, .ref q1, .null, .null, .int 0, .int 0])), (q0, ar tI 192), (q1, ar tI 3), (q2, ar tI 6)] H := hP
  have hD : va_D A [(h0, .inr (2, [.ref q0, .ref q1, .null, .null, .int 0, .int 0])), (q0, ar tI 192), (q1, ar tI 3), (q2, ar tI 6)] := hD
  refine va_putF (D := D) (ci := 2) (v := .ref q2) (ty := .array .int) (C := RX2) (T := TX2) (N := 6) hx hb htw inX2 tyX2 tyX2_ok nmX2 hown hK hP hD hS 0 rfl rfl 2 (by decide) (htw _ fl_X2_18) (fun _ h9 => h9) rfl hin rfl (by decide +kernel) rfl rfl (Nat.le_of_ble_eq_true rfl) dX2_init_25 (fun H locs hP hD hS => ?_)
  have hP : va_P D xjCl [(h0, .inr (2, [.ref q0, .ref q1, .ref q2, .null, .int 0, .int 0])), (q0, ar tI 192), (q1, ar tI 3), (q2, ar tI 6)] H := hP
  have hD : va_D A [(h0, .inr (2, [.ref q0, .ref q1, .ref q2, .null, .int 0, .int 0])), (q0, ar tI 192), (q1, ar tI 3), (q2, ar tI 6)] := hD
  refine lv_aload_n hx hb dX2_init_28 rfl (lv_at hl 0 rfl) ?_
  refine lv_bipush (v := 6) hx hb dX2_init_29 (by decide) ?_
  refine xa_newi (N' := 6) hx hb htw hK hP hD hS hA (by decide) (by decide) (Nat.le_of_ble_eq_true rfl) (Nat.le_of_ble_eq_true rfl) (Nat.le_of_ble_eq_true rfl) dX2_init_31 (fun q3 H hP hD hS => ?_)
  have hP : va_P D xjCl [(h0, .inr (2, [.ref q0, .ref q1, .ref q2, .null, .int 0, .int 0])), (q0, ar tI 192), (q1, ar tI 3), (q2, ar tI 6), (q3, ar tI 6)] H := hP
  have hD : va_D A [(h0, .inr (2, [.ref q0, .ref q1, .ref q2, .null, .int 0, .int 0])), (q0, ar tI 192), (q1, ar tI 3), (q2, ar tI 6), (q3, ar tI 6)] := hD
  refine va_putF (D := D) (ci := 2) (v := .ref q3) (ty := .array .int) (C := RX2) (T := TX2) (N := 6) hx hb htw inX2 tyX2 tyX2_ok nmX2 hown hK hP hD hS 0 rfl rfl 3 (by decide) (htw _ fl_X2_21) (fun _ h9 => h9) rfl hin rfl (by decide +kernel) rfl rfl (Nat.le_of_ble_eq_true rfl) dX2_init_33 (fun H locs hP hD hS => ?_)
  have hP : va_P D xjCl [(h0, .inr (2, [.ref q0, .ref q1, .ref q2, .ref q3, .int 0, .int 0])), (q0, ar tI 192), (q1, ar tI 3), (q2, ar tI 6), (q3, ar tI 6)] H := hP
  have hD : va_D A [(h0, .inr (2, [.ref q0, .ref q1, .ref q2, .ref q3, .int 0, .int 0])), (q0, ar tI 192), (q1, ar tI 3), (q2, ar tI 6), (q3, ar tI 6)] := hD
  refine W.widen (k := 4) (n := 207) (Nat.le_of_ble_eq_true rfl) (Nat.le_of_ble_eq_true rfl) ?_
  exact W.vret hx hb hr (fun t ht hW => ⟨⟨[(h0, .inr (2, [.ref q0, .ref q1, .ref q2, .ref q3, .int 0, .int 0])), (q0, ar tI 192), (q1, ar tI 3), (q2, ar tI 6), (q3, ar tI 6)], rfl, ⟨q0, q1, q2, q3, rfl⟩, by rw [ht]; exact hP, hD⟩, hS.F ht⟩) hS.2.2 dX2_init_36
def PWX3 (tI tB : ClassId) (h0 : Nat) (w : va_W) : Prop := ∃ q0 q1 q2 q3 : Nat, w = [(h0, .inr (3, [.ref q0, .ref q1, .ref q2, .ref q3, .int 0])), (q0, ar tI 6), (q1, ar tI 6), (q2, ar tI 6), (q3, ar tI 6)]
set_option maxHeartbeats 4000000 in
set_option maxRecDepth 100000 in
theorem ci_X3 (l : Launch) (D : va_G) (tI tB : ClassId) (h0 sz : Nat) : Met l yX3_init (wk kX3_init) (rmI 0 4 24) (va_Pc [.ref h0] (PI D tI tB h0 (.inr (3, [.null, .null, .null, .null, .int 0])) sz)) (va_Qv (PWX3 tI tB h0) (PQ D h0 (.inr (3, [.null, .null, .null, .null, .int 0])) sz) (va_A [(h0, .inr (3, [.null, .null, .null, .null, .int 0]))] sz)) 4 24 (va_A [(h0, .inr (3, [.null, .null, .null, .null, .int 0]))] sz) := by
  refine Met.ofW (cc := cX3_init) (maxL := 1) (ret := none) (by decide) rfl ?_
  intro p e s m args below meth c s₁ B hml hv
  obtain ⟨rfl, hsz, hP, hK, hN⟩ := hv
  have hx := B.exec
  have hb := B.bytes
  have hr := B.returns
  have hts := atoms_spec (ws := wk kX3_init) B.pre
  have htw : ∀ w ∈ wT, w.before _ s = true := fun w hw => hts w (List.mem_cons_of_mem _ hw)
  have hown : s.vm.findClass RX3 = some m.cls := findClass_of_methodNamed B.named
  have hlocks := B.notSynchronized
  have hin : meth.name = "<init>" := (name_of_methodNamed B.named B.method).1
  subst hsz
  have hD := D_one h0 (.inr (3, [.null, .null, .null, .null, .int 0])) s.heap.size
  unfold PQ
  generalize hAe : va_A [(h0, .inr (3, [.null, .null, .null, .null, .int 0]))] s.heap.size = A at hD ⊢
  have hA : ∀ q : Nat, s.heap.size ≤ q → A q := fun q h => by rw [← hAe]; exact Or.inr h
  have hS : va_S A s.heap s.heap [] := va_S.rf
  have hl := lv_entry ([.ref h0]) (n := 1) (Nat.le_of_ble_eq_true rfl)
  rw [lg_entry_eq]
  generalize (lg_sl ([.ref h0]) ++ List.replicate (1 - (lg_sl ([.ref h0])).length) Slot.unset).toArray = ls at hl ⊢
  have hl : lv_has ls 1 [(0, .ref h0)] := hl
  refine lv_aload_n hx hb dX3_init_0 rfl (lv_at hl 0 rfl) ?_
  refine W.objInit hx hb hown (htw _ ml_X3_3) (htw _ ima_objectInit) (htw _ co_objectInit) rfl (by rw [hml]; exact hl.1) rfl dX3_init_1 (Nat.le_of_ble_eq_true rfl) (Nat.le_of_ble_eq_true rfl) ?_
  refine W.eq (g2 := F0 m 4 ls []) rfl ?_
  refine lv_aload_n hx hb dX3_init_4 rfl (lv_at hl 0 rfl) ?_
  refine lv_bipush (v := 6) hx hb dX3_init_5 (by decide) ?_
  refine xa_newi (N' := 6) hx hb htw hK hP hD hS hA (by decide) (by decide) (Nat.le_of_ble_eq_true rfl) (Nat.le_of_ble_eq_true rfl) (Nat.le_of_ble_eq_true rfl) dX3_init_7 (fun q0 H hP hD hS => ?_)
  have hP : va_P D xjCl [(h0, .inr (3, [.null, .null, .null, .null, .int 0])), (q0, ar tI 6)] H := hP
  have hD : va_D A [(h0, .inr (3, [.null, .null, .null, .null, .int 0])), (q0, ar tI 6)] := hD
  refine va_putF (D := D) (ci := 3) (v := .ref q0) (ty := .array .int) (C := RX3) (T := TX3) (N := 5) hx hb htw inX3 tyX3 tyX3_ok nmX3 hown hK hP hD hS 0 rfl rfl 0 (by decide) (htw _ fl_X3_9) (fun _ h9 => h9) rfl hin rfl (by decide +kernel) rfl rfl (Nat.le_of_ble_eq_true rfl) dX3_init_9 (fun H locs hP hD hS => ?_)
  have hP : va_P D xjCl [(h0, .inr (3, [.ref q0, .null, .null, .null, .int 0])), (q0, ar tI 6)] H := hP
  have hD : va_D A [(h0, .inr (3, [.ref q0, .null, .null, .null, .int 0])), (q0, ar tI 6)] := hD
  refine lv_aload_n hx hb dX3_init_12 rfl (lv_at hl 0 rfl) ?_
  refine lv_bipush (v := 6) hx hb dX3_init_13 (by decide) ?_
  refine xa_newi (N' := 6) hx hb htw hK hP hD hS hA (by decide) (by decide) (Nat.le_of_ble_eq_true rfl) (Nat.le_of_ble_eq_true rfl) (Nat.le_of_ble_eq_true rfl) dX3_init_15 (fun q1 H hP hD hS => ?_)
  have hP : va_P D xjCl [(h0, .inr (3, [.ref q0, .null, .null, .null, .int 0])), (q0, ar tI 6), (q1, ar tI 6)] H := hP
  have hD : va_D A [(h0, .inr (3, [.ref q0, .null, .null, .null, .int 0])), (q0, ar tI 6), (q1, ar tI 6)] := hD
  refine va_putF (D := D) (ci := 3) (v := .ref q1) (ty := .array .int) (C := RX3) (T := TX3) (N := 5) hx hb htw inX3 tyX3 tyX3_ok nmX3 hown hK hP hD hS 0 rfl rfl 1 (by decide) (htw _ fl_X3_15) (fun _ h9 => h9) rfl hin rfl (by decide +kernel) rfl rfl (Nat.le_of_ble_eq_true rfl) dX3_init_17 (fun H locs hP hD hS => ?_)
  have hP : va_P D xjCl [(h0, .inr (3, [.ref q0, .ref q1, .null, .null, .int 0])), (q0, ar tI 6), (q1, ar tI 6)] H := hP
  have hD : va_D A [(h0, .inr (3, [.ref q0, .ref q1, .null, .null, .int 0])), (q0, ar tI 6), (q1, ar tI 6)] := hD
  refine lv_aload_n hx hb dX3_init_20 rfl (lv_at hl 0 rfl) ?_
  refine lv_bipush (v := 6) hx hb dX3_init_21 (by decide) ?_
  refine xa_newi (N' := 6) hx hb htw hK hP hD hS hA (by decide) (by decide) (Nat.le_of_ble_eq_true rfl) (Nat.le_of_ble_eq_true rfl) (Nat.le_of_ble_eq_true rfl) dX3_init_23 (fun q2 H hP hD hS => ?_)
  have hP : va_P D xjCl [(h0, .inr (3, [.ref q0, .ref q1, .null, .null, .int 0])), (q0, ar tI 6), (q1, ar tI 6), (q2, ar tI 6)] H := hP
  have hD : va_D A [(h0, .inr (3, [.ref q0, .ref q1, .null, .null, .int 0])), (q0, ar tI 6), (q1, ar tI 6), (q2, ar tI 6)] := hD
  refine va_putF (D := D) (ci := 3) (v := .ref q2) (ty := .array .int) (C := RX3) (T := TX3) (N := 5) hx hb htw inX3 tyX3 tyX3_ok nmX3 hown hK hP hD hS 0 rfl rfl 2 (by decide) (htw _ fl_X3_18) (fun _ h9 => h9) rfl hin rfl (by decide +kernel) rfl rfl (Nat.le_of_ble_eq_true rfl) dX3_init_25 (fun H locs hP hD hS => ?_)
  have hP : va_P D xjCl [(h0, .inr (3, [.ref q0, .ref q1, .ref q2, .null, .int 0])), (q0, ar tI 6), (q1, ar tI 6), (q2, ar tI 6)] H := hP
  have hD : va_D A [(h0, .inr (3, [.ref q0, .ref q1, .ref q2, .null, .int 0])), (q0, ar tI 6), (q1, ar tI 6), (q2, ar tI 6)] := hD
  refine lv_aload_n hx hb dX3_init_28 rfl (lv_at hl 0 rfl) ?_
  refine lv_bipush (v := 6) hx hb dX3_init_29 (by decide) ?_
  refine xa_newi (N' := 6) hx hb htw hK hP hD hS hA (by decide) (by decide) (Nat.le_of_ble_eq_true rfl) (Nat.le_of_ble_eq_true rfl) (Nat.le_of_ble_eq_true rfl) dX3_init_31 (fun q3 H hP hD hS => ?_)
  have hP : va_P D xjCl [(h0, .inr (3, [.ref q0, .ref q1, .ref q2, .null, .int 0])), (q0, ar tI 6), (q1, ar tI 6), (q2, ar tI 6), (q3, ar tI 6)] H := hP
  have hD : va_D A [(h0, .inr (3, [.ref q0, .ref q1, .ref q2, .null, .int 0])), (q0, ar tI 6), (q1, ar tI 6), (q2, ar tI 6), (q3, ar tI 6)] := hD
  refine va_putF (D := D) (ci := 3) (v := .ref q3) (ty := .array .int) (C := RX3) (T := TX3) (N := 5) hx hb htw inX3 tyX3 tyX3_ok nmX3 hown hK hP hD hS 0 rfl rfl 3 (by decide) (htw _ fl_X3_21) (fun _ h9 => h9) rfl hin rfl (by decide +kernel) rfl rfl (Nat.le_of_ble_eq_true rfl) dX3_init_33 (fun H locs hP hD hS => ?_)
  have hP : va_P D xjCl [(h0, .inr (3, [.ref q0, .ref q1, .ref q2, .ref q3, .int 0])), (q0, ar tI 6), (q1, ar tI 6), (q2, ar tI 6), (q3, ar tI 6)] H := hP
  have hD : va_D A [(h0, .inr (3, [.ref q0, .ref q1, .ref q2, .ref q3, .int 0])), (q0, ar tI 6), (q1, ar tI 6), (q2, ar tI 6), (q3, ar tI 6)] := hD
  refine W.widen (k := 4) (n := 24) (Nat.le_of_ble_eq_true rfl) (Nat.le_of_ble_eq_true rfl) ?_
  exact W.vret hx hb hr (fun t ht hW => ⟨⟨[(h0, .inr (3, [.ref q0, .ref q1, .ref q2, .ref q3, .int 0])), (q0, ar tI 6), (q1, ar tI 6), (q2, ar tI 6), (q3, ar tI 6)], rfl, ⟨q0, q1, q2, q3, rfl⟩, by rw [ht]; exact hP, hD⟩, hS.F ht⟩) hS.2.2 dX3_init_36
def PWX0 (tI tB : ClassId) (h0 : Nat) (w : va_W) : Prop := ∃ q0 : Nat, w = [(h0, .inr (0, [.ref q0, .int 0])), (q0, ar tI 9)]
set_option maxHeartbeats 4000000 in
set_option maxRecDepth 100000 in
theorem ci_X0 (l : Launch) (D : va_G) (tI tB : ClassId) (h0 sz : Nat) : Met l yX0_init (wk kX0_init) (rmI 0 1 9) (va_Pc [.ref h0] (PI D tI tB h0 (.inr (0, [.null, .int 0])) sz)) (va_Qv (PWX0 tI tB h0) (PQ D h0 (.inr (0, [.null, .int 0])) sz) (va_A [(h0, .inr (0, [.null, .int 0]))] sz)) 1 9 (va_A [(h0, .inr (0, [.null, .int 0]))] sz) := by
  refine Met.ofW (cc := cX0_init) (maxL := 1) (ret := none) (by decide) rfl ?_
  intro p e s m args below meth c s₁ B hml hv
  obtain ⟨rfl, hsz, hP, hK, hN⟩ := hv
  have hx := B.exec
  have hb := B.bytes
  have hr := B.returns
  have hts := atoms_spec (ws := wk kX0_init) B.pre
  have htw : ∀ w ∈ wT, w.before _ s = true := fun w hw => hts w (List.mem_cons_of_mem _ hw)
  have hown : s.vm.findClass RX0 = some m.cls := findClass_of_methodNamed B.named
  have hlocks := B.notSynchronized
  have hin : meth.name = "<init>" := (name_of_methodNamed B.named B.method).1
  subst hsz
  have hD := D_one h0 (.inr (0, [.null, .int 0])) s.heap.size
  unfold PQ
  generalize hAe : va_A [(h0, .inr (0, [.null, .int 0]))] s.heap.size = A at hD ⊢
  have hA : ∀ q : Nat, s.heap.size ≤ q → A q := fun q h => by rw [← hAe]; exact Or.inr h
  have hS : va_S A s.heap s.heap [] := va_S.rf
  have hl := lv_entry ([.ref h0]) (n := 1) (Nat.le_of_ble_eq_true rfl)
  rw [lg_entry_eq]
  generalize (lg_sl ([.ref h0]) ++ List.replicate (1 - (lg_sl ([.ref h0])).length) Slot.unset).toArray = ls at hl ⊢
  have hl : lv_has ls 1 [(0, .ref h0)] := hl
  refine lv_aload_n hx hb dX0_init_0 rfl (lv_at hl 0 rfl) ?_
  refine W.objInit hx hb hown (htw _ ml_X0_3) (htw _ ima_objectInit) (htw _ co_objectInit) rfl (by rw [hml]; exact hl.1) rfl dX0_init_1 (Nat.le_of_ble_eq_true rfl) (Nat.le_of_ble_eq_true rfl) ?_
  refine W.eq (g2 := F0 m 4 ls []) rfl ?_
  refine lv_aload_n hx hb dX0_init_4 rfl (lv_at hl 0 rfl) ?_
  refine lv_bipush (v := 9) hx hb dX0_init_5 (by decide) ?_
  refine xa_newi (N' := 9) hx hb htw hK hP hD hS hA (by decide) (by decide) (Nat.le_of_ble_eq_true rfl) (Nat.le_of_ble_eq_true rfl) (Nat.le_of_ble_eq_true rfl) dX0_init_7 (fun q0 H hP hD hS => ?_)
  have hP : va_P D xjCl [(h0, .inr (0, [.null, .int 0])), (q0, ar tI 9)] H := hP
  have hD : va_D A [(h0, .inr (0, [.null, .int 0])), (q0, ar tI 9)] := hD
  refine va_putF (D := D) (ci := 0) (v := .ref q0) (ty := .array .int) (C := RX0) (T := TX0) (N := 2) hx hb htw inX0 tyX0 tyX0_ok nmX0 hown hK hP hD hS 0 rfl rfl 0 (by decide) (htw _ fl_X0_9) (fun _ h9 => h9) rfl hin rfl (by decide +kernel) rfl rfl (Nat.le_of_ble_eq_true rfl) dX0_init_9 (fun H locs hP hD hS => ?_)
  have hP : va_P D xjCl [(h0, .inr (0, [.ref q0, .int 0])), (q0, ar tI 9)] H := hP
  have hD : va_D A [(h0, .inr (0, [.ref q0, .int 0])), (q0, ar tI 9)] := hD
  refine W.widen (k := 1) (n := 9) (Nat.le_of_ble_eq_true rfl) (Nat.le_of_ble_eq_true rfl) ?_
  exact W.vret hx hb hr (fun t ht hW => ⟨⟨[(h0, .inr (0, [.ref q0, .int 0])), (q0, ar tI 9)], rfl, ⟨q0, rfl⟩, by rw [ht]; exact hP, hD⟩, hS.F ht⟩) hS.2.2 dX0_init_12
def PWX1 (tI tB : ClassId) (h0 : Nat) (w : va_W) : Prop := w = [(h0, .inr (1, [.int 0]))]
set_option maxHeartbeats 4000000 in
set_option maxRecDepth 100000 in
theorem ci_X1 (l : Launch) (D : va_G) (tI tB : ClassId) (h0 sz : Nat) : Met l yX1_init (wk kX1_init) (rmI 0 0 0) (va_Pc [.ref h0] (PI D tI tB h0 (.inr (1, [.int 0])) sz)) (va_Qv (PWX1 tI tB h0) (PQ D h0 (.inr (1, [.int 0])) sz) (va_A [(h0, .inr (1, [.int 0]))] sz)) 0 0 (va_A [(h0, .inr (1, [.int 0]))] sz) := by
  refine Met.ofW (cc := cX1_init) (maxL := 1) (ret := none) (by decide) rfl ?_
  intro p e s m args below meth c s₁ B hml hv
  obtain ⟨rfl, hsz, hP, hK, hN⟩ := hv
  have hx := B.exec
  have hb := B.bytes
  have hr := B.returns
  have hts := atoms_spec (ws := wk kX1_init) B.pre
  have htw : ∀ w ∈ wT, w.before _ s = true := fun w hw => hts w (List.mem_cons_of_mem _ hw)
  have hown : s.vm.findClass RX1 = some m.cls := findClass_of_methodNamed B.named
  have hlocks := B.notSynchronized
  have hin : meth.name = "<init>" := (name_of_methodNamed B.named B.method).1
  subst hsz
  have hD := D_one h0 (.inr (1, [.int 0])) s.heap.size
  unfold PQ
  generalize hAe : va_A [(h0, .inr (1, [.int 0]))] s.heap.size = A at hD ⊢
  have hA : ∀ q : Nat, s.heap.size ≤ q → A q := fun q h => by rw [← hAe]; exact Or.inr h
  have hS : va_S A s.heap s.heap [] := va_S.rf
  have hl := lv_entry ([.ref h0]) (n := 1) (Nat.le_of_ble_eq_true rfl)
  rw [lg_entry_eq]
  generalize (lg_sl ([.ref h0]) ++ List.replicate (1 - (lg_sl ([.ref h0])).length) Slot.unset).toArray = ls at hl ⊢
  have hl : lv_has ls 1 [(0, .ref h0)] := hl
  refine lv_aload_n hx hb dX1_init_0 rfl (lv_at hl 0 rfl) ?_
  refine W.objInit hx hb hown (htw _ ml_X1_1) (htw _ ima_objectInit) (htw _ co_objectInit) rfl (by rw [hml]; exact hl.1) rfl dX1_init_1 (Nat.le_of_ble_eq_true rfl) (Nat.le_of_ble_eq_true rfl) ?_
  refine W.eq (g2 := F0 m 4 ls []) rfl ?_
  refine W.widen (k := 0) (n := 0) (Nat.le_of_ble_eq_true rfl) (Nat.le_of_ble_eq_true rfl) ?_
  exact W.vret hx hb hr (fun t ht hW => ⟨⟨[(h0, .inr (1, [.int 0]))], rfl, rfl, by rw [ht]; exact hP, hD⟩, hS.F ht⟩) hS.2.2 dX1_init_4
