def FOK (cs : String) (idx ci kf : Nat) : Prop := ∃ (C : String) (T : u_T) (N : Nat) (ty : Nat → FieldType), xjCl[ci]? = some (C, T, N) ∧ kf < N ∧ (∀ w ∈ u_ws C T N, w ∈ wT) ∧ Cond.fieldLink cs idx (T kf).1 (T kf).2.1 (T kf).2.2.1 ∈ wT ∧ (∀ j, j < N → parseFieldDescriptor (T j).2.2.1 = some (ty j)) ∧ (∀ a, a < N → ∀ b, b < N → a ≠ b → (T a).2.1 ≠ (T b).2.1) ∧ nF ci = N ∧ (ftag ci kf ≠ 0 → (T kf).2.2.2 = false) ∧ (ftag ci kf = 1 → ty kf = .int) ∧ (ftag ci kf = 2 → ty kf = .long) ∧ (ftag ci kf = 3 → ty kf = .boolean)
theorem ent_obj {G : Gw} {h : Hp} {c ci : Nat} (hk : kd c = (0, ci)) : ent G h c = .inr (ci, (List.range (nF ci)).map (fv G h c ci)) := by
  unfold ent
  rw [hk]
  rfl
theorem ent_ia {G : Gw} {h : Hp} {c n : Nat} (hk : kd c = (1, n)) : ent G h c = .inl (G.2.1, n, .inl fun i => Int32.ofInt (h c i)) := by
  unfold ent
  rw [hk]
  rfl
theorem ent_ba {G : Gw} {h : Hp} {c n : Nat} (hk : kd c = (2, n)) : ent G h c = .inl (G.2.2.1, n, .inl fun i => Int32.ofInt (h c i)) := by
  unfold ent
  rw [hk]
  rfl
section FJ
variable {sc : Option (Nat × (Int → Int))} {d : Nat} {k : MI} {h : Hp} {pc pc2 : Nat} {lo : Lo} {st : List Value} {Q : Int → Hp → Prop}
theorem xg_get {cs : String} {idx ci kf c : Nat} (F : FOK cs idx ci kf) (hd : decode k.2.1 pc = .ok (.getfield idx, 3)) (he : k.1.cls = cs) (hk : kd c = (0, ci)) {v : Value} (hv : ∀ G : Gw, fv G h c ci kf = cv G v) (kk : XJ sc d k h (pc + 3) lo (v :: st) Q) : XJ sc d k h pc lo (.ref c :: st) Q := by
  intro p l e R s m args below meth c0 Z G A cells slots C w z r f H locs ls hP hS hl
  have K := kk p l e R s m args below meth c0 Z G A cells slots C w z r f H locs ls hP hS hl
  obtain ⟨Cn, T, N, ty, f1, f2, f3, f4, f5, f6, f7, -⟩ := F
  obtain ⟨q0, -, hq⟩ := WS_at (G := G) (h := h) (kd_mem hk (by decide))
  rw [ent_obj hk] at hq
  refine va_get C.1 C.2.1 C.2.2.2.2.2.1 f3 (he ▸ C.2.2.2.2.1) w.1 hP q0 hq f1 kf f2 (C.2.2.2.2.2.1 _ f4) (fun x hx => hx) (v := fv G h c ci kf) ?_ hd ?_
  · rw [List.getElem?_map, List.getElem?_range (by rw [f7]; exact f2)]
    rfl
  · rw [hv G]
    exact K
theorem xj_getI {cs : String} {idx ci kf c : Nat} {kz v : Int} (F : FOK cs idx ci kf) (hd : decode k.2.1 pc = .ok (.getfield idx, 3)) (hp : pc + 3 = pc2) (he : k.1.cls = cs) (hk : kd c = (0, ci)) (ht : ftag ci kf = 1 ∨ ftag ci kf = 3) (hz : (kf : Int) = kz) (hv : h c kz = v) (kk : XJ sc d k h pc2 lo (vi v :: st) Q) : XJ sc d k h pc lo (.ref c :: st) Q := by
  subst hp; subst hz; subst hv
  refine xg_get F hd he hk (fun G => ?_) kk
  rcases ht with ht | ht <;> (unfold fv; rw [ht]; rfl)
theorem xj_getJ {cs : String} {idx ci kf c : Nat} {kz v : Int} (F : FOK cs idx ci kf) (hd : decode k.2.1 pc = .ok (.getfield idx, 3)) (hp : pc + 3 = pc2) (he : k.1.cls = cs) (hk : kd c = (0, ci)) (ht : ftag ci kf = 2) (hz : (kf : Int) = kz) (hv : h c kz = v) (kk : XJ sc d k h pc2 lo (vl v :: st) Q) : XJ sc d k h pc lo (.ref c :: st) Q := by
  subst hp; subst hz; subst hv
  exact xg_get F hd he hk (fun G => by unfold fv; rw [ht]; rfl) kk
theorem xj_getR {cs : String} {idx ci kf c : Nat} (F : FOK cs idx ci kf) (hd : decode k.2.1 pc = .ok (.getfield idx, 3)) (hp : pc + 3 = pc2) (he : k.1.cls = cs) (hk : kd c = (0, ci)) (ht : ftag ci kf = 0) (kk : XJ sc d k h pc2 lo (.ref (ch c kf) :: st) Q) : XJ sc d k h pc lo (.ref c :: st) Q := by
  subst hp
  exact xg_get F hd he hk (fun G => by unfold fv; rw [ht]; rfl) kk
theorem fv_set {G : Gw} {ci c kf N : Nat} {v : Int} {x : Value} (hx : fv G (hset h c kf v) c ci kf = x) : (List.range N).map (fv G (hset h c kf v) c ci) = ((List.range N).map (fv G h c ci)).set kf x := by
  apply List.ext_getElem?
  intro j
  by_cases e : kf = j
  · subst e
    by_cases hl : kf < N
    · rw [List.getElem?_set_self (by simpa using hl), List.getElem?_map, List.getElem?_range hl]
      simp [hx]
    · rw [List.getElem?_eq_none (by simpa using hl), List.getElem?_eq_none (by simpa using hl)]
  · rw [List.getElem?_set_ne e, List.getElem?_map, List.getElem?_map]
    cases hj : (List.range N)[j]? with
    | none => rfl
    | some j' =>
      have hj' : j' = j := by
        by_cases hl : j < N
        · rw [List.getElem?_range hl] at hj; exact (Option.some.inj hj).symm
        · rw [List.getElem?_eq_none (by simpa using hl)] at hj; cases hj
      subst hj'
      simp only [Option.map_some]
      unfold fv
      rw [hset_nk (by omega)]
theorem xg_put {cs : String} {idx ci kf c : Nat} {v : Int} {x : Value} (F : FOK cs idx ci kf) (hd : decode k.2.1 pc = .ok (.putfield idx, 3)) (he : k.1.cls = cs) (hk : kd c = (0, ci)) (ht : ftag ci kf ≠ 0) (hx : ∀ G : Gw, fv G (hset h c kf v) c ci kf = x) (hcv : ∀ G : Gw, cv G x = x) (hn : ∀ ty : FieldType, (ftag ci kf = 1 → ty = .int) → (ftag ci kf = 2 → ty = .long) → (ftag ci kf = 3 → ty = .boolean) → narrow ty x = x ∧ fits ty x = true) (kk : XJ sc d k (hset h c kf v) (pc + 3) lo st Q) : XJ sc d k h pc lo (x :: .ref c :: st) Q := by
  intro p l e R s m args below meth c0 Z G A cells slots C w z r f H locs ls hP hS hl
  obtain ⟨Cn, T, N, ty, f1, f2, f3, f4, f5, f6, f7, f8, f9, f10, f11⟩ := F
  obtain ⟨q0, hc0, hq⟩ := WS_at (G := G) (h := h) (kd_mem hk (by decide))
  rw [ent_obj hk] at hq
  have hnn := hn (ty kf) f9 f10 f11
  have hst : List.map (cv G) (x :: .ref c :: st) = x :: .ref (G.2.2.2 c) :: st.map (cv G) := by
    rw [List.map_cons, hcv G]; rfl
  rw [hst]
  refine va_put C.1 C.2.1 C.2.2.2.2.2.1 f3 ty f5 f6 (he ▸ C.2.2.2.2.1) w.1 hP (Wd_D w h) hS q0 hq f1 kf f2 (C.2.2.2.2.2.1 _ f4) (fun x hx => hx) (f8 ht) (f5 kf f2) hnn.1 hnn.2 (by simpa [f7] using f2) hd ?_
  intro H1 locs1 hP1 hD1 hS1
  have e1 : ((List.range (nF ci)).map (fv G h c ci)).set kf x = (List.range (nF ci)).map (fv G (hset h c kf v) c ci) := (fv_set (hx G)).symm
  rw [e1, ← ent_obj hk, WS_set hc0 (fun c' j hj => hset_nc hj)] at hP1
  exact kk p l e R s m args below meth c0 Z G A cells slots C w z r f H1 locs1 ls hP1 hS1 hl
theorem xj_putI {cs : String} {idx ci kf c : Nat} {kz v : Int} (F : FOK cs idx ci kf) (hd : decode k.2.1 pc = .ok (.putfield idx, 3)) (hp : pc + 3 = pc2) (he : k.1.cls = cs) (hk : kd c = (0, ci)) (ht : ftag ci kf = 1) (hz : (kf : Int) = kz) (kk : XJ sc d k (hset h c kz v) pc2 lo st Q) : XJ sc d k h pc lo (vi v :: .ref c :: st) Q := by
  subst hp; subst hz
  refine xg_put F hd he hk (by rw [ht]; decide) (fun G => ?_) (fun G => rfl) (fun ty h1 h2 h3 => ?_) kk
  · unfold fv
    rw [ht, hset_eq]
    rfl
  · rw [h1 ht]
    exact ⟨rfl, rfl⟩
theorem xj_putZ {cs : String} {idx ci kf c : Nat} {kz v : Int} (F : FOK cs idx ci kf) (hd : decode k.2.1 pc = .ok (.putfield idx, 3)) (hp : pc + 3 = pc2) (he : k.1.cls = cs) (hk : kd c = (0, ci)) (ht : ftag ci kf = 3) (hz : (kf : Int) = kz) (hb : v = 0 ∨ v = 1) (kk : XJ sc d k (hset h c kz v) pc2 lo st Q) : XJ sc d k h pc lo (vi v :: .ref c :: st) Q := by
  subst hp; subst hz
  refine xg_put F hd he hk (by rw [ht]; decide) (fun G => ?_) (fun G => rfl) (fun ty h1 h2 h3 => ?_) kk
  · unfold fv
    rw [ht, hset_eq]
    rfl
  · rw [h3 ht]
    rcases hb with rfl | rfl <;> exact ⟨rfl, rfl⟩
theorem xj_putJ {cs : String} {idx ci kf c : Nat} {kz v : Int} (F : FOK cs idx ci kf) (hd : decode k.2.1 pc = .ok (.putfield idx, 3)) (hp : pc + 3 = pc2) (he : k.1.cls = cs) (hk : kd c = (0, ci)) (ht : ftag ci kf = 2) (hz : (kf : Int) = kz) (kk : XJ sc d k (hset h c kz v) pc2 lo st Q) : XJ sc d k h pc lo (vl v :: .ref c :: st) Q := by
  subst hp; subst hz
  refine xg_put F hd he hk (by rw [ht]; decide) (fun G => ?_) (fun G => rfl) (fun ty h1 h2 h3 => ?_) kk
  · unfold fv
    rw [ht, hset_eq]
    rfl
  · rw [h2 ht]
    exact ⟨rfl, rfl⟩
theorem xj_iald {c n : Nat} {i v : Int} (hd : decode k.2.1 pc = .ok (.iaload, 1)) (hp : pc + 1 = pc2) (hk : kd c = (1, n)) (hi : 0 ≤ i ∧ i < n) (hn : n ≤ 4096) (hv : h c i = v) (kk : XJ sc d k h pc2 lo (vi v :: st) Q) : XJ sc d k h pc lo (vi i :: .ref c :: st) Q := by
  subst hp; subst hv
  intro p l e R s m args below meth c0 Z G A cells slots C w z r f H locs ls hP hS hl
  have K := kk p l e R s m args below meth c0 Z G A cells slots C w z r f H locs ls hP hS hl
  obtain ⟨q0, -, hq⟩ := WS_at (G := G) (h := h) (kd_mem hk (by decide))
  rw [ent_ia hk] at hq
  refine va_iald C.1 C.2.1 w.1 hP q0 0 hq rfl (rg_in hi hn) hd ?_
  rw [rg_clamp (by omega), Int.toNat_of_nonneg hi.1]
  exact K
theorem xj_aset {c : Nat} {i v : Int} (h0 : 0 ≤ i) : upd (fun j : Nat => Int32.ofInt (h c j)) i.toNat (Int32.ofInt v) = fun j : Nat => Int32.ofInt (hset h c i v c j) := by
  funext j
  unfold upd
  by_cases e : j = i.toNat
  · subst e
    rw [if_pos rfl, Int.toNat_of_nonneg h0, hset_eq]
  · rw [if_neg e, hset_nk (by omega)]
theorem xj_iast {c n : Nat} {i v : Int} (hd : decode k.2.1 pc = .ok (.iastore, 1)) (hp : pc + 1 = pc2) (hk : kd c = (1, n)) (hi : 0 ≤ i ∧ i < n) (hn : n ≤ 4096) (kk : XJ sc d k (hset h c i v) pc2 lo st Q) : XJ sc d k h pc lo (vi v :: vi i :: .ref c :: st) Q := by
  subst hp
  intro p l e R s m args below meth c0 Z G A cells slots C w z r f H locs ls hP hS hl
  obtain ⟨q0, hc0, hq⟩ := WS_at (G := G) (h := h) (kd_mem hk (by decide))
  rw [ent_ia hk] at hq
  refine va_iast C.1 C.2.1 w.1 hP (Wd_D w h) hS q0 0 hq rfl (rg_in hi hn) hd ?_
  intro H1 locs1 hP1 hD1 hS1
  rw [rg_clamp (by omega), xj_aset hi.1, ← ent_ia hk, WS_set hc0 (fun c' j hj => hset_nc hj)] at hP1
  exact kk p l e R s m args below meth c0 Z G A cells slots C w z r f H1 locs1 ls hP1 hS1 hl
theorem xj_alen {c n : Nat} {v : Int} (hd : decode k.2.1 pc = .ok (.arraylength, 1)) (hp : pc + 1 = pc2) (hk : kd c = (1, n)) (hv : (n : Int) = v) (kk : XJ sc d k h pc2 lo (vi v :: st) Q) : XJ sc d k h pc lo (.ref c :: st) Q := by
  subst hp; subst hv
  intro p l e R s m args below meth c0 Z G A cells slots C w z r f H locs ls hP hS hl
  have K := kk p l e R s m args below meth c0 Z G A cells slots C w z r f H locs ls hP hS hl
  obtain ⟨q0, -, hq⟩ := WS_at (G := G) (h := h) (kd_mem hk (by decide))
  rw [ent_ia hk] at hq
  exact va_alen (v := Int32.ofInt (n : Int)) C.1 C.2.1 w.1 hP q0 0 hq rfl rfl hd K
def hcopy (h : Hp) (c0 c1 : Nat) (n : Int) : Hp := fun c i => if c = c1 ∧ 0 ≤ i ∧ i < n then h c0 i else h c i
theorem xj_copy {cs : String} {idx c0 c1 n0 n1 : Nat} {n : Int} (hl : Cond.methodLink cs idx arraycopyName ∈ wT) (hd : decode k.2.1 pc = .ok (.invokestatic idx, 3)) (hp : pc + 3 = pc2) (he : k.1.cls = cs) (hk0 : kd c0 = (1, n0)) (hk1 : kd c1 = (1, n1)) (hn : 0 ≤ n ∧ n ≤ n0 ∧ n ≤ n1 ∧ n ≤ 4096) (hst : st = []) (kk : XJ sc d k (hcopy h c0 c1 n) pc2 lo st Q) : XJ sc d k h pc lo (vi n :: vi 0 :: .ref c1 :: vi 0 :: .ref c0 :: st) Q := by
  subst hp; subst hst
  intro p l e R s m args below meth c Z G A cells slots C w z r f H locs ls hP hS hll
  obtain ⟨q0, hc0, hq0⟩ := WS_at (G := G) (h := h) (kd_mem hk0 (by decide))
  obtain ⟨q1, hc1, hq1⟩ := WS_at (G := G) (h := h) (kd_mem hk1 (by decide))
  rw [ent_ia hk0] at hq0
  rw [ent_ia hk1] at hq1
  have hn0 : (Int32.ofInt n).toNatClampNeg = n.toNat := rg_clamp (by omega)
  have h00 : (Int32.ofInt 0).toNatClampNeg = 0 := rfl
  refine va_copyi (sp := Int32.ofInt 0) (dp := Int32.ofInt 0) (n := Int32.ofInt n) C.1 C.2.1 (by rw [C.2.2.1]; exact hll.1.symm) (he ▸ C.2.2.2.2.1) (C.2.2.2.2.2.1 _ hl) (C.2.2.2.2.2.1 _ nat_arraycopyName) (C.2.2.2.2.2.1 _ sta_arraycopyName) (C.2.2.2.2.2.1 _ ini_J10) w.1 hP (Wd_D w h) hS q0 q1 0 0 hq0 hq1 rfl rfl rfl (by decide) (by decide) (by rw [i0, rg_lt (by omega) (by omega)]; omega) (by rw [hn0, h00]; omega) (by rw [hn0, h00]; omega) (fun _ _ => rfl) (by have := C.2.2.2.2.2.2.2.2.1; omega) (by have := C.2.2.2.2.2.2.2.2.2; simp [nativeFrameWords]; omega) hd ?_
  intro H1 locs1 hP1 hD1 hS1
  have e1 : va_cpy (fun i : Nat => Int32.ofInt (h c0 i)) (fun i : Nat => Int32.ofInt (h c1 i)) (Int32.ofInt 0).toNatClampNeg (Int32.ofInt 0).toNatClampNeg (Int32.ofInt n).toNatClampNeg = fun i : Nat => Int32.ofInt (hcopy h c0 c1 n c1 i) := by
    rw [hn0, h00]
    funext j
    unfold va_cpy hcopy
    by_cases hj : j < n.toNat
    · rw [if_pos (by omega), if_pos (by omega)]
      simp
    · rw [if_neg (by omega), if_neg (by omega)]
  rw [e1, ← ent_ia hk1, WS_set hc1 (fun c' j hj => by unfold hcopy; rw [if_neg (fun q => hj q.1)])] at hP1
  exact kk p l e R s m args below meth c Z G A cells slots C w z r f H1 locs1 ls hP1 hS1 hll
theorem xj_sld {c L : Nat} {xs : Int → Int} {i v : Int} (hsc : sc = some (L, xs)) (hd : decode k.2.1 pc = .ok (.iaload, 1)) (hp : pc + 1 = pc2) (hi : 0 ≤ i ∧ i < L) (hn : L ≤ 4096) (hv : xs i = v) (hc : c = 1000) (kk : XJ sc d k h pc2 lo (vi v :: st) Q) : XJ sc d k h pc lo (vi i :: .ref c :: st) Q := by
  subst hp; subst hv; subst hc
  intro p l e R s m args below meth c0 Z G A cells slots C w z r f H locs ls hP hS hl
  have K := kk p l e R s m args below meth c0 Z G A cells slots C w z r f H locs ls hP hS hl
  obtain ⟨z1, z2, z3⟩ := z L xs hsc
  refine va_sld C.1 C.2.1 z1 z2 z3 hS (rg_in hi hn) hd ?_
  rw [rg_clamp (by omega), Int.toNat_of_nonneg hi.1]
  exact K
theorem xj_slen {c L : Nat} {xs : Int → Int} {v : Int} (hsc : sc = some (L, xs)) (hd : decode k.2.1 pc = .ok (.arraylength, 1)) (hp : pc + 1 = pc2) (hv : (L : Int) = v) (hc : c = 1000) (kk : XJ sc d k h pc2 lo (vi v :: st) Q) : XJ sc d k h pc lo (.ref c :: st) Q := by
  subst hp; subst hv; subst hc
  intro p l e R s m args below meth c0 Z G A cells slots C w z r f H locs ls hP hS hl
  have K := kk p l e R s m args below meth c0 Z G A cells slots C w z r f H locs ls hP hS hl
  obtain ⟨z1, z2, z3⟩ := z L xs hsc
  exact va_slen C.1 C.2.1 z1 z2 z3 hS hd K
/-! the ends -/
theorem xj_iret {x : Int} (hd : decode k.2.1 pc = .ok (.ireturn, 1)) (hr : k.2.2.2 = some .int) (hq : Q x h) : XJ sc d k h pc lo [vi x] Q := by
  intro p l e R s m args below meth c0 Z G A cells slots C w z r f H locs ls hP hS hl
  exact f x h H locs pc ls [vi x] hq (Or.inl ⟨hd, rfl, Or.inl hr⟩) hP hS
theorem xj_zret {x : Int} (hd : decode k.2.1 pc = .ok (.ireturn, 1)) (hr : k.2.2.2 = some .boolean) (hx : x = 0 ∨ x = 1) (hq : Q x h) : XJ sc d k h pc lo [vi x] Q := by
  intro p l e R s m args below meth c0 Z G A cells slots C w z r f H locs ls hP hS hl
  exact f x h H locs pc ls [vi x] hq (Or.inl ⟨hd, rfl, Or.inr ⟨hr, hx⟩⟩) hP hS
theorem xj_lret {x : Int} (hd : decode k.2.1 pc = .ok (.lreturn, 1)) (hr : k.2.2.2 = some .long) (hq : Q x h) : XJ sc d k h pc lo [vl x] Q := by
  intro p l e R s m args below meth c0 Z G A cells slots C w z r f H locs ls hP hS hl
  exact f x h H locs pc ls [vl x] hq (Or.inr (Or.inl ⟨hd, rfl, hr⟩)) hP hS
theorem xj_vret (hd : decode k.2.1 pc = .ok (.return_, 1)) (hr : k.2.2.2 = none) (hq : Q 0 h) : XJ sc d k h pc lo [] Q := by
  intro p l e R s m args below meth c0 Z G A cells slots C w z r f H locs ls hP hS hl
  exact f 0 h H locs pc ls [] hq (Or.inr (Or.inr ⟨hd, rfl, hr⟩)) hP hS
/-! fewer locals -/
def subL : Lo → Lo → Prop
  | [], _ => True
  | none :: t, _ :: t' => subL t t'
  | some v :: t, some v' :: t' => v = v' ∧ subL t t'
  | _, _ => False
theorem subL_at : ∀ (a b : Lo), subL a b → ∀ (i : Nat) (v : Value), a[i]? = some (some v) → b[i]? = some (some v)
  | [], b, _, i, v, h => by simp at h
  | none :: t, [], hs, i, v, h => by cases hs
  | none :: t, x :: t', hs, i, v, h => by
    cases i with
    | zero => simp at h
    | succ i =>
      rw [List.getElem?_cons_succ] at h ⊢
      exact subL_at t t' (by simpa [subL] using hs) i v h
  | some v0 :: t, [], hs, i, v, h => by cases hs
  | some v0 :: t, none :: t', hs, i, v, h => by simp [subL] at hs
  | some v0 :: t, some v1 :: t', hs, i, v, h => by
    have hs2 : v0 = v1 ∧ subL t t' := hs
    cases i with
    | zero =>
      rw [List.getElem?_cons_zero] at h ⊢
      rw [← hs2.1]; exact h
    | succ i =>
      rw [List.getElem?_cons_succ] at h ⊢
      exact subL_at t t' hs2.2 i v h
theorem xj_sub {lo2 : Lo} (hs : subL lo2 lo) (kk : XJ sc d k h pc lo2 st Q) : XJ sc d k h pc lo st Q := by
  intro p l e R s m args below meth c0 Z G A cells slots C w z r f H locs ls hP hS hl
  refine kk p l e R s m args below meth c0 Z G A cells slots C w z r f H locs ls hP hS (LH_mono hl (fun q hq => ?_))
  obtain ⟨n, v, h1, h2⟩ := (lp_mem _ _ _).mp hq
  exact (lp_mem _ _ _).mpr ⟨n, v, subL_at _ _ hs n v h1, h2⟩
theorem xj_mono {Q2 : Int → Hp → Prop} (hQ : ∀ x h', Q2 x h' → Q x h') (kk : XJ sc d k h pc lo st Q2) : XJ sc d k h pc lo st Q := by
  intro p l e R s m args below meth c0 Z G A cells slots C w z r f H locs ls hP hS hl
  exact kk p l e R s m args below meth c0 Z G A cells slots C w z r (fun x h' H locs pc' ls st' hq => f x h' H locs pc' ls st' (hQ x h' hq)) H locs ls hP hS hl
end FJ
