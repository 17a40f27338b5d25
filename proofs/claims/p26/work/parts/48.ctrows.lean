/-! a constructor's call -/
theorem joinL {A0 : Nat → Prop} {D : va_G} {X w1 : va_W} {q : Nat} {e : va_E} {H H1 : Heap} (hP : va_P D xjCl (X ++ [(q, e)]) H) (hD : va_D A0 (X ++ [(q, e)])) (hk : ∀ a : Nat, a < H.size → ¬ va_A [(q, e)] H.size a → H1[a]? = H[a]?) (hF : ∀ a, va_A [(q, e)] H.size a → A0 a) (hP1 : va_P D xjCl w1 H1) (hD1 : va_D (va_A [(q, e)] H.size) w1) : va_P D xjCl (X ++ w1) H1 ∧ va_D A0 (X ++ w1) := by
  have hXP : va_P D xjCl X H := fun k x hx => hP k x (by rw [List.getElem?_append_left (List.getElem?_eq_some_iff.mp hx).1]; exact hx)
  have hXn : ∀ (k : Nat) (x : Nat × va_E), X[k]? = some x → x.1 < H.size ∧ ¬ va_A [(q, e)] H.size x.1 := by
    intro k x hx
    have hlt := (hXP k x hx).lt
    refine ⟨hlt, fun z => ?_⟩
    rcases z with ⟨j, e2, hj⟩ | z
    · have hj0 : j < 1 := (List.getElem?_eq_some_iff.mp hj).1
      have e0 : j = 0 := by omega
      subst e0
      simp at hj
      have hkl := (List.getElem?_eq_some_iff.mp hx).1
      have := hD.1 k X.length x (q, e) (by rw [List.getElem?_append_left hkl]; exact hx) (by simp) (by rw [← hj.1])
      omega
    · omega
  have hXP1 : va_P D xjCl X H1 := hXP.kept (fun k x hx => hk x.1 (hXn k x hx).1 (hXn k x hx).2)
  refine ⟨hXP1.app hP1, ?_, ?_⟩
  · intro i j a b hi hj hab
    by_cases ci : i < X.length <;> by_cases cj : j < X.length
    · exact hD.1 i j a b (by rw [List.getElem?_append_left ci] at hi ⊢; exact hi) (by rw [List.getElem?_append_left cj] at hj ⊢; exact hj) hab
    · rw [List.getElem?_append_left ci] at hi
      rw [List.getElem?_append_right (by omega)] at hj
      exact absurd (hD1.2 _ b hj) (by rw [← hab]; exact (hXn i a hi).2)
    · rw [List.getElem?_append_left cj] at hj
      rw [List.getElem?_append_right (by omega)] at hi
      exact absurd (hD1.2 _ a hi) (by rw [hab]; exact (hXn j b hj).2)
    · rw [List.getElem?_append_right (by omega)] at hi hj
      have := hD1.1 _ _ a b hi hj hab
      omega
  · intro k x hx
    by_cases ck : k < X.length
    · exact hD.2 k x (by rw [List.getElem?_append_left ck] at hx ⊢; exact hx)
    · rw [List.getElem?_append_right (by omega)] at hx
      exact hF _ (hD1.2 _ x hx)
theorem PI_blind {D : va_G} {tI tB : ClassId} {h0 : Nat} {e : va_E} {sz : Nat} (as : List Value) : FrameBlind (va_Pc as (PI D tI tB h0 e sz)) := fun a U g mk q => ⟨q.1, q.2.1, q.2.2.1, va_K.moved (u := U) (U := U.calling g mk a) (Vm.Alike.refl U.vm) q.2.2.2.1, NW_same rfl q.2.2.2.2⟩
section CTR
variable {p : Program} {l : Launch} {ev : Env} {R : Room} {s : State} {m : MethodId} {args : Array Value} {below : List Frame} {meth : Method} {c : Code} {Q : State → Prop} {cc : ByteArray} {pc nL : Nat} {ls : Array Slot} {rest : List Value} {D : va_G} {A : Nat → Prop} {H0 H : Heap} {locs : List Loc} {cells slots : Nat} {X : va_W} {tI tB : ClassId} {k2 : MI} {d2 mc ms q : Nat} {e : va_E} {PW : va_W → Prop} {cs host : String} {idx : Nat}
/-- a nest mate's constructor -/
theorem xa_ctorN (hx : p.tables.exec = Jvm.exec) (hb : c.code = cc) (hml : c.maxLocals = nL) (hls : ls.size = nL) (htw : ∀ w ∈ wT, w.before args s = true) (hown : s.vm.findClass cs = some m.cls) (hN : NW s) (hK : va_K D xjCl [(tI, .int)] s) (hP : va_P D xjCl (X ++ [(q, e)]) H) (hD : va_D A (X ++ [(q, e)])) (hS : va_S A H0 H locs) (hA : ∀ a, H0.size ≤ a → A a) (M : MOK k2 0) (hret : k2.2.2.2 = none) (hini : k2.1.name = "<init>") (him : Cond.instanceMethod k2.1 ∈ wT) (hl : (cs, idx, k2.1, host) ∈ nestL) (hm : k2.2.2.1 ≤ 23)
    (hM : ∀ sz, Met l k2.1 (wk k2) (rmI d2 mc ms) (va_Pc [.ref q] (PI D tI tB q e sz)) (va_Qv PW (PQ D q e sz) (va_A [(q, e)] sz)) mc ms (va_A [(q, e)] sz))
    (hfr : d2 + 2 ≤ R.frames) (hlo : 42 * (d2 + 2) ≤ R.locals) (hc : cells + mc ≤ R.cells ∧ slots + ms ≤ R.slots) (hst : (rest.map fun v => v.category).sum ≤ 8) (hdg : decode cc pc = .ok (.invokespecial idx, 3))
    (kk : ∀ (w1 : va_W) (H1 : Heap) (locs1 : List Loc), PW w1 → va_P D xjCl (X ++ w1) H1 → va_D A (X ++ w1) → va_S A H0 H1 locs1 → W p l ev R s m args below meth c H1 locs1 (cells + mc) (slots + ms) Q (F0 m (pc + 3) ls rest)) : W p l ev R s m args below meth c H locs cells slots Q (F0 m pc ls (.ref q :: rest)) := by
  have hPc : va_P D xjCl [(q, e)] H := hP.sub (ws' := [(q, e)]) [X.length] (by simp)
  have hFc : ∀ a, va_A [(q, e)] H.size a → A a := va_free (wc := [(q, e)]) hD hS hA [X.length] (by simp)
  have cw : va_CN R s args cs idx k2.1 host k2.2.1 k2.2.2.1 none (wk k2) (rmI d2 mc ms) mc ms 0 := by
    have hcode := htw _ M.2.1
    rw [hret] at hcode
    refine ⟨⟨rfl, rfl, by show d2 + 1 + 1 ≤ R.frames; omega, by show 8 + (k2.2.2.1 + 11) + 42 * (d2 + 1) ≤ R.locals; omega, pay_in htw (wk_in M), by unfold wk; rw [hret]; exact List.mem_cons_self⟩, hcode, htw _ M.2.2.1, M.2.2.2.1, fun sig hs => ?_, va_Nw.use rfl (hN _ hl)⟩
    have h2 := M.2.2.2.2
    rw [hs] at h2
    exact (Option.some.inj h2).symm
  refine va_callv (va_runIN (As := []) (rest := rest) ⟨hx, hb, hml, hown, htw⟩ (hM H.size) ⟨cw, hini, htw _ him⟩ ⟨PI_blind _, fun U hU hW => ⟨rfl, by rw [hU], by rw [hU]; exact hPc, va_K.moved hW.alike hK, NW_warm hW hN⟩⟩ rfl rfl hls rfl (lv_room hst) hdg hc) hS (fun a _ h => hFc a h) hFc (fun u t H1 locs1 ht hvm hw hB hz1 hk1 hS1 => ?_)
  obtain ⟨hP1, hD1⟩ := hB
  rw [ht] at hP1
  obtain ⟨hP2, hD2⟩ := joinL hP hD hk1 hFc hP1 hD1
  exact kk u H1 locs1 hw hP2 hD2 hS1
/-- a constructor linked as it is -/
theorem xa_ctorI (hx : p.tables.exec = Jvm.exec) (hb : c.code = cc) (hml : c.maxLocals = nL) (hls : ls.size = nL) (htw : ∀ w ∈ wT, w.before args s = true) (hown : s.vm.findClass cs = some m.cls) (hN : NW s) (hK : va_K D xjCl [(tI, .int)] s) (hP : va_P D xjCl (X ++ [(q, e)]) H) (hD : va_D A (X ++ [(q, e)])) (hS : va_S A H0 H locs) (hA : ∀ a, H0.size ≤ a → A a) (M : MOK k2 0) (hret : k2.2.2.2 = none) (hini : k2.1.name = "<init>") (him : Cond.instanceMethod k2.1 ∈ wT) (hl : Cond.methodLink cs idx k2.1 ∈ wT) (hm : k2.2.2.1 ≤ 23)
    (hM : ∀ sz, Met l k2.1 (wk k2) (rmI d2 mc ms) (va_Pc [.ref q] (PI D tI tB q e sz)) (va_Qv PW (PQ D q e sz) (va_A [(q, e)] sz)) mc ms (va_A [(q, e)] sz))
    (hfr : d2 + 2 ≤ R.frames) (hlo : 42 * (d2 + 2) ≤ R.locals) (hc : cells + mc ≤ R.cells ∧ slots + ms ≤ R.slots) (hst : (rest.map fun v => v.category).sum ≤ 8) (hdg : decode cc pc = .ok (.invokespecial idx, 3))
    (kk : ∀ (w1 : va_W) (H1 : Heap) (locs1 : List Loc), PW w1 → va_P D xjCl (X ++ w1) H1 → va_D A (X ++ w1) → va_S A H0 H1 locs1 → W p l ev R s m args below meth c H1 locs1 (cells + mc) (slots + ms) Q (F0 m (pc + 3) ls rest)) : W p l ev R s m args below meth c H locs cells slots Q (F0 m pc ls (.ref q :: rest)) := by
  have hPc : va_P D xjCl [(q, e)] H := hP.sub (ws' := [(q, e)]) [X.length] (by simp)
  have hFc : ∀ a, va_A [(q, e)] H.size a → A a := va_free (wc := [(q, e)]) hD hS hA [X.length] (by simp)
  have cw : CallB R s args cs idx k2.1 k2.2.1 k2.2.2.1 none (wk k2) (rmI d2 mc ms) mc ms 0 := by
    have hcode := htw _ M.2.1
    rw [hret] at hcode
    refine ⟨rfl, rfl, by show d2 + 1 + 1 ≤ R.frames; omega, by show 8 + (k2.2.2.1 + 11) + 42 * (d2 + 1) ≤ R.locals; omega, pay_in htw (wk_in M), by unfold wk; rw [hret]; exact List.mem_cons_self, hcode, htw _ M.2.2.1, M.2.2.2.1, fun sig hs => ?_, htw _ hl⟩
    have h2 := M.2.2.2.2
    rw [hs] at h2
    exact (Option.some.inj h2).symm
  refine va_callv (va_runI (As := []) (rest := rest) ⟨hx, hb, hml, hown, htw⟩ (hM H.size) ⟨cw, hini, htw _ him⟩ ⟨PI_blind _, fun U hU hW => ⟨rfl, by rw [hU], by rw [hU]; exact hPc, va_K.moved hW.alike hK, NW_warm hW hN⟩⟩ rfl rfl hls rfl (lv_room hst) hdg hc) hS (fun a _ h => hFc a h) hFc (fun u t H1 locs1 ht hvm hw hB hz1 hk1 hS1 => ?_)
  obtain ⟨hP1, hD1⟩ := hB
  rw [ht] at hP1
  obtain ⟨hP2, hD2⟩ := joinL hP hD hk1 hFc hP1 hD1
  exact kk u H1 locs1 hw hP2 hD2 hS1
end CTR
