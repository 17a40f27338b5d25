section CJs
variable {sc : Option (Nat × (Int → Int))} {d d2 n : Nat} {k k2 : MI} {h : Hp} {pc pc2 : Nat} {lo : Lo} {st : List Value} {Q : Int → Hp → Prop}
theorem AG_in {G : Gw} {s : State} {A : Nat → Prop} (w : Wd G s A) : ∀ q, AG G q → A q := by
  rintro q ⟨c, h1, rfl⟩
  exact w.2.2 c h1
theorem run_call {p : Program} {l : Launch} {e : Env} {R : Room} {s : State} {m : MethodId} {args : Array Value} {below : List Frame} {meth : Method} {c : Code} {H : Heap} {locs : List Loc} {cells slots : Nat} {Z : State → Prop} {ls : Array Slot} {st0 rest : List Value} {G : Gw} {A0 : Nat → Prop} {a : Array Value} {H0 : Heap}
    (hr : va_Run p l e R s m args below meth c H locs cells slots 0 0 (F0 m pc ls st0) rest (QJ k2 G Q a) (AG G)) (hS : va_S A0 H0 H locs) (hA : ∀ q, AG G q → A0 q)
    (kk : ∀ (x : Int) (h' : Hp) (H1 : Heap) (locs1 : List Loc), Q x h' → va_P G.1 xjCl (WS G h') H1 → va_S A0 H0 H1 locs1 → W p l e R s m args below meth c H1 locs1 cells slots Z (F0 m (pc + 3) ls ((rv k2 x).toList ++ rest))) : W p l e R s m args below meth c H locs cells slots Z (F0 m pc ls st0) := by
  intro T hT X
  obtain ⟨v, st₀, t, T', L, h0, X', hL, e1, e2, ⟨⟨x, h', hq, ho, hp⟩, hz, hk⟩, st⟩ := hr T hT X
  rw [h0] at hz hk
  have hv : v = rv k2 x := Outcome.returned.inj ho
  subst hv
  obtain ⟨t2, a1, b1⟩ := kk x h' T'.heap (locs ++ L) hq (by rw [e1]; exact hp)
    ⟨Nat.le_trans hS.1 (by rw [e1]; exact hz), fun q h1 h2 => by rw [e1, hk q (Nat.lt_of_lt_of_le h1 hS.1) (fun z => h2 (hA q z))]; exact hS.2.1 q h1 h2, fun q hq => by
      rcases List.mem_append.mp hq with h | h
      · exact hS.2.2 q h
      · exact hA _ (hL q h)⟩ T' rfl X'
  exact ⟨t2, st t2 a1, b1⟩
theorem sum_cat (G : Gw) : ∀ st : List Value, ((st.map (cv G)).map fun v => v.category).sum = (st.map fun v => v.category).sum
  | [] => rfl
  | v :: st => by
    rw [List.map_cons, List.map_cons, List.map_cons, List.sum_cons, List.sum_cons, sum_cat G st, cv_cat]
theorem cb_of {p : Program} {R : Room} {s : State} {m : MethodId} {args : Array Value} {meth : Method} {c : Code} {cs : String} {idx : Nat} (C : Cx p R s m args meth c k d) (M : MOK k2 n) (hl : Cond.methodLink cs idx k2.1 ∈ wT) (hd2 : d2 + 1 ≤ d) (hm : k2.2.2.1 ≤ 23) : CallB R s args cs idx k2.1 k2.2.1 k2.2.2.1 k2.2.2.2 (wk k2) (rmd d2) 0 0 n := by
  have hf := C.2.2.2.2.2.2.2.2.1
  have hlo := C.2.2.2.2.2.2.2.2.2
  refine ⟨rfl, rfl, by show d2 + 1 + 1 ≤ R.frames; omega, by show 8 + (k2.2.2.1 + 11) + 42 * (d2 + 1) ≤ R.locals; omega, pay_in C.2.2.2.2.2.1 (wk_in M), List.mem_cons_self, C.2.2.2.2.2.1 _ M.2.1, C.2.2.2.2.2.1 _ M.2.2.1, M.2.2.2.1, fun sig hs => ?_, C.2.2.2.2.2.1 _ hl⟩
  have h2 := M.2.2.2.2
  rw [hs] at h2
  exact (Option.some.inj h2).symm
theorem cn_of {p : Program} {R : Room} {s : State} {m : MethodId} {args : Array Value} {meth : Method} {c : Code} {cs host : String} {idx : Nat} (C : Cx p R s m args meth c k d) (M : MOK k2 n) (hl : (cs, idx, k2.1, host) ∈ nestL) (hd2 : d2 + 1 ≤ d) (hm : k2.2.2.1 ≤ 23) : va_CN R s args cs idx k2.1 host k2.2.1 k2.2.2.1 k2.2.2.2 (wk k2) (rmd d2) 0 0 n := by
  have hf := C.2.2.2.2.2.2.2.2.1
  have hlo := C.2.2.2.2.2.2.2.2.2
  refine ⟨⟨rfl, rfl, by show d2 + 1 + 1 ≤ R.frames; omega, by show 8 + (k2.2.2.1 + 11) + 42 * (d2 + 1) ≤ R.locals; omega, pay_in C.2.2.2.2.2.1 (wk_in M), List.mem_cons_self⟩, C.2.2.2.2.2.1 _ M.2.1, C.2.2.2.2.2.1 _ M.2.2.1, M.2.2.2.1, fun sig hs => ?_, va_Nw.use rfl (C.2.2.2.2.2.2.2.1 _ hl)⟩
  have h2 := M.2.2.2.2
  rw [hs] at h2
  exact (Option.some.inj h2).symm
theorem pre_of {G : Gw} {s : State} {A : Nat → Prop} {H : Heap} {as : List Value} (w : Wd G s A) (hn : NW s) (hP : va_P G.1 xjCl (WS G h) H) : ∀ U : State, U.heap = H → s.WarmedH U.vm → va_Pc as (PJ G h) as.toArray U := fun U hU hW => ⟨rfl, by rw [hU]; exact hP, va_K.moved hW.alike w.1, NW_warm hW hn⟩
/-- a static method, linked as it is -/
theorem xg_callS {cs : String} {idx : Nat} {as : List Value} (M : MOK k2 n) (hl : Cond.methodLink cs idx k2.1 ∈ wT) (hs : Cond.static k2.1 ∈ wT) (hd : decode k.2.1 pc = .ok (.invokestatic idx, 3)) (he : k.1.cls = cs) (hn : as.length = n) (hd2 : d2 + 1 ≤ d) (hm : k2.2.2.1 ≤ 23) (hst : (st.map fun v => v.category).sum ≤ 8)
    (kk : CJ d2 k2 as h (fun x h' => XJ sc d k h' (pc + 3) lo ((rv k2 x).toList ++ st) Q)) : XJ sc d k h pc lo (as.reverse ++ st) Q := by
  intro p l e R s m args below meth c Z G A cells slots C w z r f H locs ls hP hS hll
  have hM := kk l G w.2.1
  have hr := va_runS (H := H) (locs := locs) (below := below) (meth := meth) (e := e) (cells := cells) (slots := slots) (g := F0 m pc ls ((as.reverse ++ st).map (cv G))) (rest := st.map (cv G)) (As := as.map (cv G)) ⟨C.1, C.2.1, C.2.2.1, (he ▸ C.2.2.2.2.1 : s.vm.findClass cs = some m.cls), C.2.2.2.2.2.1⟩ hM ⟨cb_of C M hl hd2 hm, C.2.2.2.2.2.1 _ hs⟩ ⟨PJ_blind G h _, pre_of w C.2.2.2.2.2.2.2.1 hP⟩ rfl (by simpa using hn) hll.1 (by simp) (lv_room (by rw [sum_cat]; exact hst)) hd (by simpa using r)
  refine run_call hr hS (AG_in w) (fun x h' H1 locs1 hq hP1 hS1 => ?_)
  have K := hq p l e R s m args below meth c Z G A cells slots C w z r f H1 locs1 ls hP1 hS1 hll
  rw [List.map_append] at K
  have e2 : (rv k2 x).toList.map (cv G) = (rv k2 x).toList := by
    unfold rv
    split <;> rfl
  rw [e2] at K
  exact K
/-- a static method of a nest mate -/
theorem xg_callN {cs host : String} {idx : Nat} {as : List Value} (M : MOK k2 n) (hl : (cs, idx, k2.1, host) ∈ nestL) (hs : Cond.static k2.1 ∈ wT) (hd : decode k.2.1 pc = .ok (.invokestatic idx, 3)) (he : k.1.cls = cs) (hn : as.length = n) (hd2 : d2 + 1 ≤ d) (hm : k2.2.2.1 ≤ 23) (hst : (st.map fun v => v.category).sum ≤ 8)
    (kk : CJ d2 k2 as h (fun x h' => XJ sc d k h' (pc + 3) lo ((rv k2 x).toList ++ st) Q)) : XJ sc d k h pc lo (as.reverse ++ st) Q := by
  intro p l e R s m args below meth c Z G A cells slots C w z r f H locs ls hP hS hll
  have hM := kk l G w.2.1
  have hr := va_runSN (H := H) (locs := locs) (below := below) (meth := meth) (e := e) (cells := cells) (slots := slots) (g := F0 m pc ls ((as.reverse ++ st).map (cv G))) (rest := st.map (cv G)) (As := as.map (cv G)) ⟨C.1, C.2.1, C.2.2.1, (he ▸ C.2.2.2.2.1 : s.vm.findClass cs = some m.cls), C.2.2.2.2.2.1⟩ hM ⟨cn_of C M hl hd2 hm, C.2.2.2.2.2.1 _ hs, trivial⟩ ⟨PJ_blind G h _, pre_of w C.2.2.2.2.2.2.2.1 hP⟩ rfl (by simpa using hn) hll.1 (by simp) (lv_room (by rw [sum_cat]; exact hst)) hd (by simpa using r)
  refine run_call hr hS (AG_in w) (fun x h' H1 locs1 hq hP1 hS1 => ?_)
  have K := hq p l e R s m args below meth c Z G A cells slots C w z r f H1 locs1 ls hP1 hS1 hll
  rw [List.map_append] at K
  have e2 : (rv k2 x).toList.map (cv G) = (rv k2 x).toList := by
    unfold rv
    split <;> rfl
  rw [e2] at K
  exact K
/-- a method of an object -/
theorem xg_callV {cs Cn : String} {T : u_T} {N idx b ci : Nat} {as : List Value} (M : MOK k2 n) (hl : Cond.methodLink cs idx k2.1 ∈ wT) (hi : Cond.instanceMethod k2.1 ∈ wT) (hse : Cond.selects Cn k2.1 k2.1 ∈ wT) (hcl : xjCl[ci]? = some (Cn, T, N)) (hkb : kd b = (0, ci)) (hd : decode k.2.1 pc = .ok (.invokevirtual idx, 3)) (he : k.1.cls = cs) (hn : as.length = n) (hd2 : d2 + 1 ≤ d) (hm : k2.2.2.1 ≤ 23) (hst : (st.map fun v => v.category).sum ≤ 8)
    (kk : CJ d2 k2 (.ref b :: as) h (fun x h' => XJ sc d k h' (pc + 3) lo ((rv k2 x).toList ++ st) Q)) : XJ sc d k h pc lo (as.reverse ++ .ref b :: st) Q := by
  intro p l e R s m args below meth c Z G A cells slots C w z r f H locs ls hP hS hll
  have hM := kk l G w.2.1
  obtain ⟨q0, -, hq0⟩ := WS_at (G := G) (h := h) (kd_mem hkb (by decide))
  rw [ent_obj hkb] at hq0
  have hr := va_runV (H := H) (locs := locs) (below := below) (meth := meth) (e := e) (cells := cells) (slots := slots) (g := F0 m pc ls ((as.reverse ++ .ref b :: st).map (cv G))) (rest := st.map (cv G)) (As := as.map (cv G)) (b := G.2.2.2 b) ⟨C.1, C.2.1, C.2.2.1, (he ▸ C.2.2.2.2.1 : s.vm.findClass cs = some m.cls), C.2.2.2.2.2.1⟩ hM ⟨cb_of C M hl hd2 hm, C.2.2.2.2.2.1 _ hi, C.2.2.2.2.2.1 _ hse⟩ ⟨PJ_blind G h _, va_recv w.1 hP hcl hq0, pre_of (as := (.ref b :: as).map (cv G)) w C.2.2.2.2.2.2.2.1 hP⟩ rfl (by simpa using hn) hll.1 (by simp [cv]) (lv_room (by rw [sum_cat]; exact hst)) hd (by simpa using r)
  refine run_call hr hS (AG_in w) (fun x h' H1 locs1 hq hP1 hS1 => ?_)
  have K := hq p l e R s m args below meth c Z G A cells slots C w z r f H1 locs1 ls hP1 hS1 hll
  rw [List.map_append] at K
  have e2 : (rv k2 x).toList.map (cv G) = (rv k2 x).toList := by
    unfold rv
    split <;> rfl
  rw [e2] at K
  exact K
/-- a contract out of a walk from the entry -/
theorem cj_of {as : List Value} {lo : Lo} (M : MOK k n) (hlo : ∀ G : Gw, lp G 0 lo = lv_args 0 (as.map (cv G))) (hlen : ∀ G : Gw, (lg_sl (as.map (cv G))).length ≤ k.2.2.1) (kk : XJ none d k h 0 lo [] Q) : CJ d k as h Q := by
  intro l G hinj
  refine Met.ofW (cc := k.2.1) (maxL := k.2.2.1) (ret := k.2.2.2) M.1 rfl ?_
  intro p e s m args below meth c s₁ B hml hv
  obtain ⟨rfl, hP, hK, hN⟩ := hv
  have hts := atoms_spec (ws := wk k) B.pre
  have hroom : ((headSpec (wk k) (rmd d)).room) = rmd d := rfl
  have C : Cx p (headSpec (wk k) (rmd d)).room s m ((as.map (cv G)).toArray) meth c k d := ⟨B.exec, B.bytes, hml, B.returns, findClass_of_methodNamed B.named, fun w hw => hts w (List.mem_cons_of_mem _ hw), B.notSynchronized, hN, Nat.le_refl _, Nat.le_refl _⟩
  have w : Wd G s (AG G) := ⟨hK, hinj, fun c hc => ⟨c, hc, rfl⟩⟩
  have hl := lv_entry (as.map (cv G)) (n := k.2.2.1) (hlen G)
  rw [lg_entry_eq]
  rw [← hlo G] at hl
  refine kk p l e _ s m _ below meth c _ G (AG G) 0 0 C w (fun L xs hx => by cases hx) ⟨Nat.zero_le _, Nat.zero_le _⟩ ?_ s.heap [] _ hP va_S.rf hl
  intro x h' H locs pc' ls st' hq hf hP' hS'
  have hend : ∀ v : Option Value, v = rv k x → ∀ t : State, t.heap = H → s.WarmedH t.vm → QJ k G Q ((as.map (cv G)).toArray) s (.returned v) t := fun v hv t ht _ => ⟨⟨x, h', hq, by rw [hv], by rw [ht]; exact hP'⟩, hS'.F ht⟩
  rcases hf with ⟨hd, rfl, hr | ⟨hr, hx⟩⟩ | ⟨hd, rfl, hr⟩ | ⟨hd, rfl, hr⟩
  · exact W.iret C.1 C.2.1 (B.returns.trans hr) (hend _ (by unfold rv; rw [hr]; rfl)) hS'.2.2 hd B.notSynchronized
  · exact W.zret C.1 C.2.1 (B.returns.trans hr) (by rcases hx with rfl | rfl <;> rfl) (hend _ (by unfold rv; rw [hr]; rfl)) hS'.2.2 hd B.notSynchronized
  · exact W.lret C.1 C.2.1 (B.returns.trans hr) (hend _ (by unfold rv; rw [hr]; rfl)) hS'.2.2 hd B.notSynchronized
  · exact W.vret C.1 C.2.1 (B.returns.trans hr) (hend _ (by unfold rv; rw [hr])) hS'.2.2 hd B.notSynchronized
end CJs
