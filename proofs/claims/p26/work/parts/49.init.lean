/-! KidGloves() -/
def PWX6 (tI tB : ClassId) (h0 : Nat) (w : va_W) : Prop := ∃ (q0 q1 q2 q3 q4 q5 q6 q7 : Nat) (w0 w1 w2 w3 w4 w5 w6 w7 : va_W), PWX4 tI tB q0 w0 ∧ PWX5 tI tB q1 w1 ∧ PWX5 tI tB q2 w2 ∧ PWX5 tI tB q3 w3 ∧ PWX2 tI tB q4 w4 ∧ PWX3 tI tB q5 w5 ∧ PWX0 tI tB q6 w6 ∧ PWX1 tI tB q7 w7 ∧ w = (h0, .inr (6, [.ref q0, .ref q1, .ref q2, .ref q3, .ref q4, .ref q5, .ref q6, .ref q7, .int 0, .int 0, .int 0])) :: (((((((w0 ++ w1) ++ w2) ++ w3) ++ w4) ++ w5) ++ w6) ++ w7)
set_option maxHeartbeats 4000000 in
set_option maxRecDepth 100000 in
theorem ci_X6 (l : Launch) (D : va_G) (tI tB : ClassId) (h0 sz : Nat) : Met l yX6_init (wk kX6_init) (rmI 1 51 537) (va_Pc [.ref h0] (PI D tI tB h0 (.inr (6, [.null, .null, .null, .null, .null, .null, .null, .null, .int 0, .int 0, .int 0])) sz)) (va_Qv (PWX6 tI tB h0) (PQ D h0 (.inr (6, [.null, .null, .null, .null, .null, .null, .null, .null, .int 0, .int 0, .int 0])) sz) (va_A [(h0, .inr (6, [.null, .null, .null, .null, .null, .null, .null, .null, .int 0, .int 0, .int 0]))] sz)) 51 537 (va_A [(h0, .inr (6, [.null, .null, .null, .null, .null, .null, .null, .null, .int 0, .int 0, .int 0]))] sz) := by
  refine Met.ofW (cc := cX6_init) (maxL := 1) (ret := none) (by decide) rfl ?_
  intro p e s m args below meth c s₁ B hml hv
  obtain ⟨rfl, hsz, hP, hK, hN⟩ := hv
  have hx := B.exec
  have hb := B.bytes
  have hr := B.returns
  have hts := atoms_spec (ws := wk kX6_init) B.pre
  have htw : ∀ w ∈ wT, w.before _ s = true := fun w hw => hts w (List.mem_cons_of_mem _ hw)
  have hown : s.vm.findClass RX6 = some m.cls := findClass_of_methodNamed B.named
  have hlocks := B.notSynchronized
  have hin : meth.name = "<init>" := (name_of_methodNamed B.named B.method).1
  subst hsz
  have hD := D_one h0 (.inr (6, [.null, .null, .null, .null, .null, .null, .null, .null, .int 0, .int 0, .int 0])) s.heap.size
  unfold PQ
  generalize hAe : va_A [(h0, .inr (6, [.null, .null, .null, .null, .null, .null, .null, .null, .int 0, .int 0, .int 0]))] s.heap.size = A at hD ⊢
  have hA : ∀ q : Nat, s.heap.size ≤ q → A q := fun q h => by rw [← hAe]; exact Or.inr h
  have hS : va_S A s.heap s.heap [] := va_S.rf
  have hl := lv_entry ([.ref h0]) (n := 1) (Nat.le_of_ble_eq_true rfl)
  rw [lg_entry_eq]
  generalize (lg_sl ([.ref h0]) ++ List.replicate (1 - (lg_sl ([.ref h0])).length) Slot.unset).toArray = ls at hl ⊢
  have hl : lv_has ls 1 [(0, .ref h0)] := hl
  refine lv_aload_n hx hb dX6_init_0 rfl (lv_at hl 0 rfl) ?_
  refine W.objInit hx hb hown (htw _ ml_X6_3) (htw _ ima_objectInit) (htw _ co_objectInit) rfl (by rw [hml]; exact hl.1) rfl dX6_init_1 (Nat.le_of_ble_eq_true rfl) (Nat.le_of_ble_eq_true rfl) ?_
  refine W.eq (g2 := F0 m 4 ls []) rfl ?_
  refine lv_aload_n hx hb dX6_init_4 rfl (lv_at hl 0 rfl) ?_
  refine va_new (ci := 4) (fs := [.null, .int 0]) (C := RX4) (T := TX4) (N := 2) hx hb htw inX4 tyX4 tyX4_ok hown (htw _ cl_X6_9) (htw _ ins_X4) (htw _ ini_X4) hK hP hD hS hA rfl (fun j hj => by rcases (show j = 0 ∨ j = 1 by omega) with rfl | rfl <;> rfl) (Nat.le_of_ble_eq_true rfl) (Nat.le_of_ble_eq_true rfl) dX6_init_5 (fun q0 H hP hD hS => ?_)
  have hP : va_P D xjCl (((h0, .inr (6, [.null, .null, .null, .null, .null, .null, .null, .null, .int 0, .int 0, .int 0])) :: []) ++ [(q0, .inr (4, [.null, .int 0]))]) H := hP
  have hD : va_D A (((h0, .inr (6, [.null, .null, .null, .null, .null, .null, .null, .null, .int 0, .int 0, .int 0])) :: []) ++ [(q0, .inr (4, [.null, .int 0]))]) := hD
  refine lv_dup hx hb dX6_init_8 rfl ?_
  refine xa_ctorN (k2 := kX4_init) (d2 := 0) (mc := 1) (ms := 26) (PW := PWX4 tI tB q0) hx hb hml hl.1 htw hown hN hK hP hD hS hA mok_X4_init rfl rfl ima_yX4_init mn_X6_11 (Nat.le_of_ble_eq_true rfl) (fun sz => ci_X4 l D tI tB q0 sz) (Nat.le_of_ble_eq_true rfl) (Nat.le_of_ble_eq_true rfl) ⟨Nat.le_of_ble_eq_true rfl, Nat.le_of_ble_eq_true rfl⟩ (Nat.le_of_ble_eq_true rfl) dX6_init_9 (fun w0 H locs hw0 hP hD hS => ?_)
  have hP : va_P D xjCl ((h0, .inr (6, [.null, .null, .null, .null, .null, .null, .null, .null, .int 0, .int 0, .int 0])) :: w0) H := hP
  have hD : va_D A ((h0, .inr (6, [.null, .null, .null, .null, .null, .null, .null, .null, .int 0, .int 0, .int 0])) :: w0) := hD
  refine va_putF (D := D) (ci := 6) (v := .ref q0) (ty := .object RX4) (C := RX6) (T := TX6) (N := 11) hx hb htw inX6 tyX6 tyX6_ok nmX6 hown hK hP hD hS 0 rfl rfl 0 (by decide) (htw _ fl_X6_12) (fun _ h9 => h9) rfl hin rfl (by decide +kernel) rfl rfl (Nat.le_of_ble_eq_true rfl) dX6_init_12 (fun H locs hP hD hS => ?_)
  have hP : va_P D xjCl ((h0, .inr (6, [.ref q0, .null, .null, .null, .null, .null, .null, .null, .int 0, .int 0, .int 0])) :: w0) H := hP
  have hD : va_D A ((h0, .inr (6, [.ref q0, .null, .null, .null, .null, .null, .null, .null, .int 0, .int 0, .int 0])) :: w0) := hD
  refine lv_aload_n hx hb dX6_init_15 rfl (lv_at hl 0 rfl) ?_
  refine va_new (ci := 5) (fs := [.null, .null, .null, .null, .null, .null, .null, .null, .null, .null, .null, .int 0, .int 0, .int 0, .int 0]) (C := RX5) (T := TX5) (N := 15) hx hb htw inX5 tyX5 tyX5_ok hown (htw _ cl_X6_16) (htw _ ins_X5) (htw _ ini_X5) hK hP hD hS hA rfl (fun j hj => by rcases (show j = 0 ∨ j = 1 ∨ j = 2 ∨ j = 3 ∨ j = 4 ∨ j = 5 ∨ j = 6 ∨ j = 7 ∨ j = 8 ∨ j = 9 ∨ j = 10 ∨ j = 11 ∨ j = 12 ∨ j = 13 ∨ j = 14 by omega) with rfl | rfl | rfl | rfl | rfl | rfl | rfl | rfl | rfl | rfl | rfl | rfl | rfl | rfl | rfl <;> rfl) (Nat.le_of_ble_eq_true rfl) (Nat.le_of_ble_eq_true rfl) dX6_init_16 (fun q1 H hP hD hS => ?_)
  have hP : va_P D xjCl (((h0, .inr (6, [.ref q0, .null, .null, .null, .null, .null, .null, .null, .int 0, .int 0, .int 0])) :: w0) ++ [(q1, .inr (5, [.null, .null, .null, .null, .null, .null, .null, .null, .null, .null, .null, .int 0, .int 0, .int 0, .int 0]))]) H := hP
  have hD : va_D A (((h0, .inr (6, [.ref q0, .null, .null, .null, .null, .null, .null, .null, .int 0, .int 0, .int 0])) :: w0) ++ [(q1, .inr (5, [.null, .null, .null, .null, .null, .null, .null, .null, .null, .null, .null, .int 0, .int 0, .int 0, .int 0]))]) := hD
  refine lv_dup hx hb dX6_init_19 rfl ?_
  refine xa_ctorN (k2 := kX5_init) (d2 := 0) (mc := 11) (ms := 70) (PW := PWX5 tI tB q1) hx hb hml hl.1 htw hown hN hK hP hD hS hA mok_X5_init rfl rfl ima_yX5_init mn_X6_18 (Nat.le_of_ble_eq_true rfl) (fun sz => ci_X5 l D tI tB q1 sz) (Nat.le_of_ble_eq_true rfl) (Nat.le_of_ble_eq_true rfl) ⟨Nat.le_of_ble_eq_true rfl, Nat.le_of_ble_eq_true rfl⟩ (Nat.le_of_ble_eq_true rfl) dX6_init_20 (fun w1 H locs hw1 hP hD hS => ?_)
  have hP : va_P D xjCl ((h0, .inr (6, [.ref q0, .null, .null, .null, .null, .null, .null, .null, .int 0, .int 0, .int 0])) :: (w0 ++ w1)) H := hP
  have hD : va_D A ((h0, .inr (6, [.ref q0, .null, .null, .null, .null, .null, .null, .null, .int 0, .int 0, .int 0])) :: (w0 ++ w1)) := hD
  refine va_putF (D := D) (ci := 6) (v := .ref q1) (ty := .object RX5) (C := RX6) (T := TX6) (N := 11) hx hb htw inX6 tyX6 tyX6_ok nmX6 hown hK hP hD hS 0 rfl rfl 1 (by decide) (htw _ fl_X6_19) (fun _ h9 => h9) rfl hin rfl (by decide +kernel) rfl rfl (Nat.le_of_ble_eq_true rfl) dX6_init_23 (fun H locs hP hD hS => ?_)
  have hP : va_P D xjCl ((h0, .inr (6, [.ref q0, .ref q1, .null, .null, .null, .null, .null, .null, .int 0, .int 0, .int 0])) :: (w0 ++ w1)) H := hP
  have hD : va_D A ((h0, .inr (6, [.ref q0, .ref q1, .null, .null, .null, .null, .null, .null, .int 0, .int 0, .int 0])) :: (w0 ++ w1)) := hD
  refine lv_aload_n hx hb dX6_init_26 rfl (lv_at hl 0 rfl) ?_
  refine va_new (ci := 5) (fs := [.null, .null, .null, .null, .null, .null, .null, .null, .null, .null, .null, .int 0, .int 0, .int 0, .int 0]) (C := RX5) (T := TX5) (N := 15) hx hb htw inX5 tyX5 tyX5_ok hown (htw _ cl_X6_16) (htw _ ins_X5) (htw _ ini_X5) hK hP hD hS hA rfl (fun j hj => by rcases (show j = 0 ∨ j = 1 ∨ j = 2 ∨ j = 3 ∨ j = 4 ∨ j = 5 ∨ j = 6 ∨ j = 7 ∨ j = 8 ∨ j = 9 ∨ j = 10 ∨ j = 11 ∨ j = 12 ∨ j = 13 ∨ j = 14 by omega) with rfl | rfl | rfl | rfl | rfl | rfl | rfl | rfl | rfl | rfl | rfl | rfl | rfl | rfl | rfl <;> rfl) (Nat.le_of_ble_eq_true rfl) (Nat.le_of_ble_eq_true rfl) dX6_init_27 (fun q2 H hP hD hS => ?_)
  have hP : va_P D xjCl (((h0, .inr (6, [.ref q0, .ref q1, .null, .null, .null, .null, .null, .null, .int 0, .int 0, .int 0])) :: (w0 ++ w1)) ++ [(q2, .inr (5, [.null, .null, .null, .null, .null, .null, .null, .null, .null, .null, .null, .int 0, .int 0, .int 0, .int 0]))]) H := hP
  have hD : va_D A (((h0, .inr (6, [.ref q0, .ref q1, .null, .null, .null, .null, .null, .null, .int 0, .int 0, .int 0])) :: (w0 ++ w1)) ++ [(q2, .inr (5, [.null, .null, .null, .null, .null, .null, .null, .null, .null, .null, .null, .int 0, .int 0, .int 0, .int 0]))]) := hD
  refine lv_dup hx hb dX6_init_30 rfl ?_
  refine xa_ctorN (k2 := kX5_init) (d2 := 0) (mc := 11) (ms := 70) (PW := PWX5 tI tB q2) hx hb hml hl.1 htw hown hN hK hP hD hS hA mok_X5_init rfl rfl ima_yX5_init mn_X6_18 (Nat.le_of_ble_eq_true rfl) (fun sz => ci_X5 l D tI tB q2 sz) (Nat.le_of_ble_eq_true rfl) (Nat.le_of_ble_eq_true rfl) ⟨Nat.le_of_ble_eq_true rfl, Nat.le_of_ble_eq_true rfl⟩ (Nat.le_of_ble_eq_true rfl) dX6_init_31 (fun w2 H locs hw2 hP hD hS => ?_)
  have hP : va_P D xjCl ((h0, .inr (6, [.ref q0, .ref q1, .null, .null, .null, .null, .null, .null, .int 0, .int 0, .int 0])) :: ((w0 ++ w1) ++ w2)) H := hP
  have hD : va_D A ((h0, .inr (6, [.ref q0, .ref q1, .null, .null, .null, .null, .null, .null, .int 0, .int 0, .int 0])) :: ((w0 ++ w1) ++ w2)) := hD
  refine va_putF (D := D) (ci := 6) (v := .ref q2) (ty := .object RX5) (C := RX6) (T := TX6) (N := 11) hx hb htw inX6 tyX6 tyX6_ok nmX6 hown hK hP hD hS 0 rfl rfl 2 (by decide) (htw _ fl_X6_23) (fun _ h9 => h9) rfl hin rfl (by decide +kernel) rfl rfl (Nat.le_of_ble_eq_true rfl) dX6_init_34 (fun H locs hP hD hS => ?_)
  have hP : va_P D xjCl ((h0, .inr (6, [.ref q0, .ref q1, .ref q2, .null, .null, .null, .null, .null, .int 0, .int 0, .int 0])) :: ((w0 ++ w1) ++ w2)) H := hP
  have hD : va_D A ((h0, .inr (6, [.ref q0, .ref q1, .ref q2, .null, .null, .null, .null, .null, .int 0, .int 0, .int 0])) :: ((w0 ++ w1) ++ w2)) := hD
  refine lv_aload_n hx hb dX6_init_37 rfl (lv_at hl 0 rfl) ?_
  refine va_new (ci := 5) (fs := [.null, .null, .null, .null, .null, .null, .null, .null, .null, .null, .null, .int 0, .int 0, .int 0, .int 0]) (C := RX5) (T := TX5) (N := 15) hx hb htw inX5 tyX5 tyX5_ok hown (htw _ cl_X6_16) (htw _ ins_X5) (htw _ ini_X5) hK hP hD hS hA rfl (fun j hj => by rcases (show j = 0 ∨ j = 1 ∨ j = 2 ∨ j = 3 ∨ j = 4 ∨ j = 5 ∨ j = 6 ∨ j = 7 ∨ j = 8 ∨ j = 9 ∨ j = 10 ∨ j = 11 ∨ j = 12 ∨ j = 13 ∨ j = 14 by omega) with rfl | rfl | rfl | rfl | rfl | rfl | rfl | rfl | rfl | rfl | rfl | rfl | rfl | rfl | rfl <;> rfl) (Nat.le_of_ble_eq_true rfl) (Nat.le_of_ble_eq_true rfl) dX6_init_38 (fun q3 H hP hD hS => ?_)
  have hP : va_P D xjCl (((h0, .inr (6, [.ref q0, .ref q1, .ref q2, .null, .null, .null, .null, .null, .int 0, .int 0, .int 0])) :: ((w0 ++ w1) ++ w2)) ++ [(q3, .inr (5, [.null, .null, .null, .null, .null, .null, .null, .null, .null, .null, .null, .int 0, .int 0, .int 0, .int 0]))]) H := hP
  have hD : va_D A (((h0, .inr (6, [.ref q0, .ref q1, .ref q2, .null, .null, .null, .null, .null, .int 0, .int 0, .int 0])) :: ((w0 ++ w1) ++ w2)) ++ [(q3, .inr (5, [.null, .null, .null, .null, .null, .null, .null, .null, .null, .null, .null, .int 0, .int 0, .int 0, .int 0]))]) := hD
  refine lv_dup hx hb dX6_init_41 rfl ?_
  refine xa_ctorN (k2 := kX5_init) (d2 := 0) (mc := 11) (ms := 70) (PW := PWX5 tI tB q3) hx hb hml hl.1 htw hown hN hK hP hD hS hA mok_X5_init rfl rfl ima_yX5_init mn_X6_18 (Nat.le_of_ble_eq_true rfl) (fun sz => ci_X5 l D tI tB q3 sz) (Nat.le_of_ble_eq_true rfl) (Nat.le_of_ble_eq_true rfl) ⟨Nat.le_of_ble_eq_true rfl, Nat.le_of_ble_eq_true rfl⟩ (Nat.le_of_ble_eq_true rfl) dX6_init_42 (fun w3 H locs hw3 hP hD hS => ?_)
  have hP : va_P D xjCl ((h0, .inr (6, [.ref q0, .ref q1, .ref q2, .null, .null, .null, .null, .null, .int 0, .int 0, .int 0])) :: (((w0 ++ w1) ++ w2) ++ w3)) H := hP
  have hD : va_D A ((h0, .inr (6, [.ref q0, .ref q1, .ref q2, .null, .null, .null, .null, .null, .int 0, .int 0, .int 0])) :: (((w0 ++ w1) ++ w2) ++ w3)) := hD
  refine va_putF (D := D) (ci := 6) (v := .ref q3) (ty := .object RX5) (C := RX6) (T := TX6) (N := 11) hx hb htw inX6 tyX6 tyX6_ok nmX6 hown hK hP hD hS 0 rfl rfl 3 (by decide) (htw _ fl_X6_26) (fun _ h9 => h9) rfl hin rfl (by decide +kernel) rfl rfl (Nat.le_of_ble_eq_true rfl) dX6_init_45 (fun H locs hP hD hS => ?_)
  have hP : va_P D xjCl ((h0, .inr (6, [.ref q0, .ref q1, .ref q2, .ref q3, .null, .null, .null, .null, .int 0, .int 0, .int 0])) :: (((w0 ++ w1) ++ w2) ++ w3)) H := hP
  have hD : va_D A ((h0, .inr (6, [.ref q0, .ref q1, .ref q2, .ref q3, .null, .null, .null, .null, .int 0, .int 0, .int 0])) :: (((w0 ++ w1) ++ w2) ++ w3)) := hD
  refine lv_aload_n hx hb dX6_init_48 rfl (lv_at hl 0 rfl) ?_
  refine va_new (ci := 2) (fs := [.null, .null, .null, .null, .int 0, .int 0]) (C := RX2) (T := TX2) (N := 6) hx hb htw inX2 tyX2 tyX2_ok hown (htw _ cl_X6_29) (htw _ ins_X2) (htw _ ini_X2) hK hP hD hS hA rfl (fun j hj => by rcases (show j = 0 ∨ j = 1 ∨ j = 2 ∨ j = 3 ∨ j = 4 ∨ j = 5 by omega) with rfl | rfl | rfl | rfl | rfl | rfl <;> rfl) (Nat.le_of_ble_eq_true rfl) (Nat.le_of_ble_eq_true rfl) dX6_init_49 (fun q4 H hP hD hS => ?_)
  have hP : va_P D xjCl (((h0, .inr (6, [.ref q0, .ref q1, .ref q2, .ref q3, .null, .null, .null, .null, .int 0, .int 0, .int 0])) :: (((w0 ++ w1) ++ w2) ++ w3)) ++ [(q4, .inr (2, [.null, .null, .null, .null, .int 0, .int 0]))]) H := hP
  have hD : va_D A (((h0, .inr (6, [.ref q0, .ref q1, .ref q2, .ref q3, .null, .null, .null, .null, .int 0, .int 0, .int 0])) :: (((w0 ++ w1) ++ w2) ++ w3)) ++ [(q4, .inr (2, [.null, .null, .null, .null, .int 0, .int 0]))]) := hD
  refine lv_dup hx hb dX6_init_52 rfl ?_
  refine xa_ctorN (k2 := kX2_init) (d2 := 0) (mc := 4) (ms := 207) (PW := PWX2 tI tB q4) hx hb hml hl.1 htw hown hN hK hP hD hS hA mok_X2_init rfl rfl ima_yX2_init mn_X6_31 (Nat.le_of_ble_eq_true rfl) (fun sz => ci_X2 l D tI tB q4 sz) (Nat.le_of_ble_eq_true rfl) (Nat.le_of_ble_eq_true rfl) ⟨Nat.le_of_ble_eq_true rfl, Nat.le_of_ble_eq_true rfl⟩ (Nat.le_of_ble_eq_true rfl) dX6_init_53 (fun w4 H locs hw4 hP hD hS => ?_)
  have hP : va_P D xjCl ((h0, .inr (6, [.ref q0, .ref q1, .ref q2, .ref q3, .null, .null, .null, .null, .int 0, .int 0, .int 0])) :: ((((w0 ++ w1) ++ w2) ++ w3) ++ w4)) H := hP
  have hD : va_D A ((h0, .inr (6, [.ref q0, .ref q1, .ref q2, .ref q3, .null, .null, .null, .null, .int 0, .int 0, .int 0])) :: ((((w0 ++ w1) ++ w2) ++ w3) ++ w4)) := hD
  refine va_putF (D := D) (ci := 6) (v := .ref q4) (ty := .object RX2) (C := RX6) (T := TX6) (N := 11) hx hb htw inX6 tyX6 tyX6_ok nmX6 hown hK hP hD hS 0 rfl rfl 4 (by decide) (htw _ fl_X6_32) (fun _ h9 => h9) rfl hin rfl (by decide +kernel) rfl rfl (Nat.le_of_ble_eq_true rfl) dX6_init_56 (fun H locs hP hD hS => ?_)
  have hP : va_P D xjCl ((h0, .inr (6, [.ref q0, .ref q1, .ref q2, .ref q3, .ref q4, .null, .null, .null, .int 0, .int 0, .int 0])) :: ((((w0 ++ w1) ++ w2) ++ w3) ++ w4)) H := hP
  have hD : va_D A ((h0, .inr (6, [.ref q0, .ref q1, .ref q2, .ref q3, .ref q4, .null, .null, .null, .int 0, .int 0, .int 0])) :: ((((w0 ++ w1) ++ w2) ++ w3) ++ w4)) := hD
  refine lv_aload_n hx hb dX6_init_59 rfl (lv_at hl 0 rfl) ?_
  refine va_new (ci := 3) (fs := [.null, .null, .null, .null, .int 0]) (C := RX3) (T := TX3) (N := 5) hx hb htw inX3 tyX3 tyX3_ok hown (htw _ cl_X6_36) (htw _ ins_X3) (htw _ ini_X3) hK hP hD hS hA rfl (fun j hj => by rcases (show j = 0 ∨ j = 1 ∨ j = 2 ∨ j = 3 ∨ j = 4 by omega) with rfl | rfl | rfl | rfl | rfl <;> rfl) (Nat.le_of_ble_eq_true rfl) (Nat.le_of_ble_eq_true rfl) dX6_init_60 (fun q5 H hP hD hS => ?_)
  have hP : va_P D xjCl (((h0, .inr (6, [.ref q0, .ref q1, .ref q2, .ref q3, .ref q4, .null, .null, .null, .int 0, .int 0, .int 0])) :: ((((w0 ++ w1) ++ w2) ++ w3) ++ w4)) ++ [(q5, .inr (3, [.null, .null, .null, .null, .int 0]))]) H := hP
  have hD : va_D A (((h0, .inr (6, [.ref q0, .ref q1, .ref q2, .ref q3, .ref q4, .null, .null, .null, .int 0, .int 0, .int 0])) :: ((((w0 ++ w1) ++ w2) ++ w3) ++ w4)) ++ [(q5, .inr (3, [.null, .null, .null, .null, .int 0]))]) := hD
  refine lv_dup hx hb dX6_init_63 rfl ?_
  refine xa_ctorN (k2 := kX3_init) (d2 := 0) (mc := 4) (ms := 24) (PW := PWX3 tI tB q5) hx hb hml hl.1 htw hown hN hK hP hD hS hA mok_X3_init rfl rfl ima_yX3_init mn_X6_38 (Nat.le_of_ble_eq_true rfl) (fun sz => ci_X3 l D tI tB q5 sz) (Nat.le_of_ble_eq_true rfl) (Nat.le_of_ble_eq_true rfl) ⟨Nat.le_of_ble_eq_true rfl, Nat.le_of_ble_eq_true rfl⟩ (Nat.le_of_ble_eq_true rfl) dX6_init_64 (fun w5 H locs hw5 hP hD hS => ?_)
  have hP : va_P D xjCl ((h0, .inr (6, [.ref q0, .ref q1, .ref q2, .ref q3, .ref q4, .null, .null, .null, .int 0, .int 0, .int 0])) :: (((((w0 ++ w1) ++ w2) ++ w3) ++ w4) ++ w5)) H := hP
  have hD : va_D A ((h0, .inr (6, [.ref q0, .ref q1, .ref q2, .ref q3, .ref q4, .null, .null, .null, .int 0, .int 0, .int 0])) :: (((((w0 ++ w1) ++ w2) ++ w3) ++ w4) ++ w5)) := hD
  refine va_putF (D := D) (ci := 6) (v := .ref q5) (ty := .object RX3) (C := RX6) (T := TX6) (N := 11) hx hb htw inX6 tyX6 tyX6_ok nmX6 hown hK hP hD hS 0 rfl rfl 5 (by decide) (htw _ fl_X6_39) (fun _ h9 => h9) rfl hin rfl (by decide +kernel) rfl rfl (Nat.le_of_ble_eq_true rfl) dX6_init_67 (fun H locs hP hD hS => ?_)
  have hP : va_P D xjCl ((h0, .inr (6, [.ref q0, .ref q1, .ref q2, .ref q3, .ref q4, .ref q5, .null, .null, .int 0, .int 0, .int 0])) :: (((((w0 ++ w1) ++ w2) ++ w3) ++ w4) ++ w5)) H := hP
  have hD : va_D A ((h0, .inr (6, [.ref q0, .ref q1, .ref q2, .ref q3, .ref q4, .ref q5, .null, .null, .int 0, .int 0, .int 0])) :: (((((w0 ++ w1) ++ w2) ++ w3) ++ w4) ++ w5)) := hD
  refine lv_aload_n hx hb dX6_init_70 rfl (lv_at hl 0 rfl) ?_
  refine va_new (ci := 0) (fs := [.null, .int 0]) (C := RX0) (T := TX0) (N := 2) hx hb htw inX0 tyX0 tyX0_ok hown (htw _ cl_X6_43) (htw _ ins_X0) (htw _ ini_X0) hK hP hD hS hA rfl (fun j hj => by rcases (show j = 0 ∨ j = 1 by omega) with rfl | rfl <;> rfl) (Nat.le_of_ble_eq_true rfl) (Nat.le_of_ble_eq_true rfl) dX6_init_71 (fun q6 H hP hD hS => ?_)
  have hP : va_P D xjCl (((h0, .inr (6, [.ref q0, .ref q1, .ref q2, .ref q3, .ref q4, .ref q5, .null, .null, .int 0, .int 0, .int 0])) :: (((((w0 ++ w1) ++ w2) ++ w3) ++ w4) ++ w5)) ++ [(q6, .inr (0, [.null, .int 0]))]) H := hP
  have hD : va_D A (((h0, .inr (6, [.ref q0, .ref q1, .ref q2, .ref q3, .ref q4, .ref q5, .null, .null, .int 0, .int 0, .int 0])) :: (((((w0 ++ w1) ++ w2) ++ w3) ++ w4) ++ w5)) ++ [(q6, .inr (0, [.null, .int 0]))]) := hD
  refine lv_dup hx hb dX6_init_74 rfl ?_
  refine xa_ctorN (k2 := kX0_init) (d2 := 0) (mc := 1) (ms := 9) (PW := PWX0 tI tB q6) hx hb hml hl.1 htw hown hN hK hP hD hS hA mok_X0_init rfl rfl ima_yX0_init mn_X6_45 (Nat.le_of_ble_eq_true rfl) (fun sz => ci_X0 l D tI tB q6 sz) (Nat.le_of_ble_eq_true rfl) (Nat.le_of_ble_eq_true rfl) ⟨Nat.le_of_ble_eq_true rfl, Nat.le_of_ble_eq_true rfl⟩ (Nat.le_of_ble_eq_true rfl) dX6_init_75 (fun w6 H locs hw6 hP hD hS => ?_)
  have hP : va_P D xjCl ((h0, .inr (6, [.ref q0, .ref q1, .ref q2, .ref q3, .ref q4, .ref q5, .null, .null, .int 0, .int 0, .int 0])) :: ((((((w0 ++ w1) ++ w2) ++ w3) ++ w4) ++ w5) ++ w6)) H := hP
  have hD : va_D A ((h0, .inr (6, [.ref q0, .ref q1, .ref q2, .ref q3, .ref q4, .ref q5, .null, .null, .int 0, .int 0, .int 0])) :: ((((((w0 ++ w1) ++ w2) ++ w3) ++ w4) ++ w5) ++ w6)) := hD
  refine va_putF (D := D) (ci := 6) (v := .ref q6) (ty := .object RX0) (C := RX6) (T := TX6) (N := 11) hx hb htw inX6 tyX6 tyX6_ok nmX6 hown hK hP hD hS 0 rfl rfl 6 (by decide) (htw _ fl_X6_46) (fun _ h9 => h9) rfl hin rfl (by decide +kernel) rfl rfl (Nat.le_of_ble_eq_true rfl) dX6_init_78 (fun H locs hP hD hS => ?_)
  have hP : va_P D xjCl ((h0, .inr (6, [.ref q0, .ref q1, .ref q2, .ref q3, .ref q4, .ref q5, .ref q6, .null, .int 0, .int 0, .int 0])) :: ((((((w0 ++ w1) ++ w2) ++ w3) ++ w4) ++ w5) ++ w6)) H := hP
  have hD : va_D A ((h0, .inr (6, [.ref q0, .ref q1, .ref q2, .ref q3, .ref q4, .ref q5, .ref q6, .null, .int 0, .int 0, .int 0])) :: ((((((w0 ++ w1) ++ w2) ++ w3) ++ w4) ++ w5) ++ w6)) := hD
  refine lv_aload_n hx hb dX6_init_81 rfl (lv_at hl 0 rfl) ?_
  refine va_new (ci := 1) (fs := [.int 0]) (C := RX1) (T := TX1) (N := 1) hx hb htw inX1 tyX1 tyX1_ok hown (htw _ cl_X6_50) (htw _ ins_X1) (htw _ ini_X1) hK hP hD hS hA rfl (fun j hj => by rcases (show j = 0 by omega) with rfl <;> rfl) (Nat.le_of_ble_eq_true rfl) (Nat.le_of_ble_eq_true rfl) dX6_init_82 (fun q7 H hP hD hS => ?_)
  have hP : va_P D xjCl (((h0, .inr (6, [.ref q0, .ref q1, .ref q2, .ref q3, .ref q4, .ref q5, .ref q6, .null, .int 0, .int 0, .int 0])) :: ((((((w0 ++ w1) ++ w2) ++ w3) ++ w4) ++ w5) ++ w6)) ++ [(q7, .inr (1, [.int 0]))]) H := hP
  have hD : va_D A (((h0, .inr (6, [.ref q0, .ref q1, .ref q2, .ref q3, .ref q4, .ref q5, .ref q6, .null, .int 0, .int 0, .int 0])) :: ((((((w0 ++ w1) ++ w2) ++ w3) ++ w4) ++ w5) ++ w6)) ++ [(q7, .inr (1, [.int 0]))]) := hD
  refine lv_dup hx hb dX6_init_85 rfl ?_
  refine xa_ctorN (k2 := kX1_init) (d2 := 0) (mc := 0) (ms := 0) (PW := PWX1 tI tB q7) hx hb hml hl.1 htw hown hN hK hP hD hS hA mok_X1_init rfl rfl ima_yX1_init mn_X6_52 (Nat.le_of_ble_eq_true rfl) (fun sz => ci_X1 l D tI tB q7 sz) (Nat.le_of_ble_eq_true rfl) (Nat.le_of_ble_eq_true rfl) ⟨Nat.le_of_ble_eq_true rfl, Nat.le_of_ble_eq_true rfl⟩ (Nat.le_of_ble_eq_true rfl) dX6_init_86 (fun w7 H locs hw7 hP hD hS => ?_)
  have hP : va_P D xjCl ((h0, .inr (6, [.ref q0, .ref q1, .ref q2, .ref q3, .ref q4, .ref q5, .ref q6, .null, .int 0, .int 0, .int 0])) :: (((((((w0 ++ w1) ++ w2) ++ w3) ++ w4) ++ w5) ++ w6) ++ w7)) H := hP
  have hD : va_D A ((h0, .inr (6, [.ref q0, .ref q1, .ref q2, .ref q3, .ref q4, .ref q5, .ref q6, .null, .int 0, .int 0, .int 0])) :: (((((((w0 ++ w1) ++ w2) ++ w3) ++ w4) ++ w5) ++ w6) ++ w7)) := hD
  refine va_putF (D := D) (ci := 6) (v := .ref q7) (ty := .object RX1) (C := RX6) (T := TX6) (N := 11) hx hb htw inX6 tyX6 tyX6_ok nmX6 hown hK hP hD hS 0 rfl rfl 7 (by decide) (htw _ fl_X6_53) (fun _ h9 => h9) rfl hin rfl (by decide +kernel) rfl rfl (Nat.le_of_ble_eq_true rfl) dX6_init_89 (fun H locs hP hD hS => ?_)
  have hP : va_P D xjCl ((h0, .inr (6, [.ref q0, .ref q1, .ref q2, .ref q3, .ref q4, .ref q5, .ref q6, .ref q7, .int 0, .int 0, .int 0])) :: (((((((w0 ++ w1) ++ w2) ++ w3) ++ w4) ++ w5) ++ w6) ++ w7)) H := hP
  have hD : va_D A ((h0, .inr (6, [.ref q0, .ref q1, .ref q2, .ref q3, .ref q4, .ref q5, .ref q6, .ref q7, .int 0, .int 0, .int 0])) :: (((((((w0 ++ w1) ++ w2) ++ w3) ++ w4) ++ w5) ++ w6) ++ w7)) := hD
  refine W.widen (k := 51) (n := 537) (Nat.le_of_ble_eq_true rfl) (Nat.le_of_ble_eq_true rfl) ?_
  exact W.vret hx hb hr (fun t ht hW => ⟨⟨(h0, .inr (6, [.ref q0, .ref q1, .ref q2, .ref q3, .ref q4, .ref q5, .ref q6, .ref q7, .int 0, .int 0, .int 0])) :: (((((((w0 ++ w1) ++ w2) ++ w3) ++ w4) ++ w5) ++ w6) ++ w7), rfl, ⟨q0, q1, q2, q3, q4, q5, q6, q7, w0, w1, w2, w3, w4, w5, w6, w7, hw0, hw1, hw2, hw3, hw4, hw5, hw6, hw7, rfl⟩, by rw [ht]; exact hP, hD⟩, hS.F ht⟩) hS.2.2 dX6_init_92
