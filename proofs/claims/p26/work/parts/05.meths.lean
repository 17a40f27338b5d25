theorem xj_S0I {sc : Option (Nat × (Int → Int))} {d d2 : Nat} {k k2 : MI} {h : Hp} {pc pc2 : Nat} {lo : Lo} {st : List Value} {Q : Int → Hp → Prop} {cs : String} {idx : Nat} (M : MOK k2 0) (hl : Cond.methodLink cs idx k2.1 ∈ wT) (hs : Cond.static k2.1 ∈ wT) (hd : decode k.2.1 pc = .ok (.invokestatic idx, 3)) (hp : pc + 3 = pc2) (he : k.1.cls = cs) (hd2 : d2 + 1 ≤ d) (hm : k2.2.2.1 ≤ 23) (hst : (st.map fun v => v.category).sum ≤ 8) (hr : ∀ x, rv k2 x = some (vi x)) (kk : CJ d2 k2 [] h (fun x h' => XJ sc d k h' pc2 lo (vi x :: st) Q)) : XJ sc d k h pc lo (st) Q := by
  subst hp
  have e : (fun x h' => XJ sc d k h' (pc + 3) lo ((rv k2 x).toList ++ st) Q) = (fun x h' => XJ sc d k h' (pc + 3) lo (vi x :: st) Q) := by
    funext x h'
    rw [hr x]
    rfl
  refine xg_callS (as := []) M hl hs hd he rfl hd2 hm hst ?_
  rw [e]
  exact kk
theorem xj_N0I {sc : Option (Nat × (Int → Int))} {d d2 : Nat} {k k2 : MI} {h : Hp} {pc pc2 : Nat} {lo : Lo} {st : List Value} {Q : Int → Hp → Prop} {cs host : String} {idx : Nat} (M : MOK k2 0) (hl : (cs, idx, k2.1, host) ∈ nestL) (hs : Cond.static k2.1 ∈ wT) (hd : decode k.2.1 pc = .ok (.invokestatic idx, 3)) (hp : pc + 3 = pc2) (he : k.1.cls = cs) (hd2 : d2 + 1 ≤ d) (hm : k2.2.2.1 ≤ 23) (hst : (st.map fun v => v.category).sum ≤ 8) (hr : ∀ x, rv k2 x = some (vi x)) (kk : CJ d2 k2 [] h (fun x h' => XJ sc d k h' pc2 lo (vi x :: st) Q)) : XJ sc d k h pc lo (st) Q := by
  subst hp
  have e : (fun x h' => XJ sc d k h' (pc + 3) lo ((rv k2 x).toList ++ st) Q) = (fun x h' => XJ sc d k h' (pc + 3) lo (vi x :: st) Q) := by
    funext x h'
    rw [hr x]
    rfl
  refine xg_callN (as := []) M hl hs hd he rfl hd2 hm hst ?_
  rw [e]
  exact kk
theorem xj_V0I {sc : Option (Nat × (Int → Int))} {d d2 : Nat} {k k2 : MI} {h : Hp} {pc pc2 : Nat} {lo : Lo} {st : List Value} {Q : Int → Hp → Prop} {cs Cn : String} {T : u_T} {N idx b ci : Nat} (M : MOK k2 0) (hl : Cond.methodLink cs idx k2.1 ∈ wT) (hi : Cond.instanceMethod k2.1 ∈ wT) (hse : Cond.selects Cn k2.1 k2.1 ∈ wT) (hcl : xjCl[ci]? = some (Cn, T, N)) (hkb : kd b = (0, ci)) (hd : decode k.2.1 pc = .ok (.invokevirtual idx, 3)) (hp : pc + 3 = pc2) (he : k.1.cls = cs) (hd2 : d2 + 1 ≤ d) (hm : k2.2.2.1 ≤ 23) (hst : (st.map fun v => v.category).sum ≤ 8) (hr : ∀ x, rv k2 x = some (vi x)) (kk : CJ d2 k2 [.ref b] h (fun x h' => XJ sc d k h' pc2 lo (vi x :: st) Q)) : XJ sc d k h pc lo (.ref b :: st) Q := by
  subst hp
  have e : (fun x h' => XJ sc d k h' (pc + 3) lo ((rv k2 x).toList ++ st) Q) = (fun x h' => XJ sc d k h' (pc + 3) lo (vi x :: st) Q) := by
    funext x h'
    rw [hr x]
    rfl
  refine xg_callV (as := []) M hl hi hse hcl hkb hd he rfl hd2 hm hst ?_
  rw [e]
  exact kk
theorem xj_S0J {sc : Option (Nat × (Int → Int))} {d d2 : Nat} {k k2 : MI} {h : Hp} {pc pc2 : Nat} {lo : Lo} {st : List Value} {Q : Int → Hp → Prop} {cs : String} {idx : Nat} (M : MOK k2 0) (hl : Cond.methodLink cs idx k2.1 ∈ wT) (hs : Cond.static k2.1 ∈ wT) (hd : decode k.2.1 pc = .ok (.invokestatic idx, 3)) (hp : pc + 3 = pc2) (he : k.1.cls = cs) (hd2 : d2 + 1 ≤ d) (hm : k2.2.2.1 ≤ 23) (hst : (st.map fun v => v.category).sum ≤ 8) (hr : ∀ x, rv k2 x = some (vl x)) (kk : CJ d2 k2 [] h (fun x h' => XJ sc d k h' pc2 lo (vl x :: st) Q)) : XJ sc d k h pc lo (st) Q := by
  subst hp
  have e : (fun x h' => XJ sc d k h' (pc + 3) lo ((rv k2 x).toList ++ st) Q) = (fun x h' => XJ sc d k h' (pc + 3) lo (vl x :: st) Q) := by
    funext x h'
    rw [hr x]
    rfl
  refine xg_callS (as := []) M hl hs hd he rfl hd2 hm hst ?_
  rw [e]
  exact kk
theorem xj_N0J {sc : Option (Nat × (Int → Int))} {d d2 : Nat} {k k2 : MI} {h : Hp} {pc pc2 : Nat} {lo : Lo} {st : List Value} {Q : Int → Hp → Prop} {cs host : String} {idx : Nat} (M : MOK k2 0) (hl : (cs, idx, k2.1, host) ∈ nestL) (hs : Cond.static k2.1 ∈ wT) (hd : decode k.2.1 pc = .ok (.invokestatic idx, 3)) (hp : pc + 3 = pc2) (he : k.1.cls = cs) (hd2 : d2 + 1 ≤ d) (hm : k2.2.2.1 ≤ 23) (hst : (st.map fun v => v.category).sum ≤ 8) (hr : ∀ x, rv k2 x = some (vl x)) (kk : CJ d2 k2 [] h (fun x h' => XJ sc d k h' pc2 lo (vl x :: st) Q)) : XJ sc d k h pc lo (st) Q := by
  subst hp
  have e : (fun x h' => XJ sc d k h' (pc + 3) lo ((rv k2 x).toList ++ st) Q) = (fun x h' => XJ sc d k h' (pc + 3) lo (vl x :: st) Q) := by
    funext x h'
    rw [hr x]
    rfl
  refine xg_callN (as := []) M hl hs hd he rfl hd2 hm hst ?_
  rw [e]
  exact kk
theorem xj_V0J {sc : Option (Nat × (Int → Int))} {d d2 : Nat} {k k2 : MI} {h : Hp} {pc pc2 : Nat} {lo : Lo} {st : List Value} {Q : Int → Hp → Prop} {cs Cn : String} {T : u_T} {N idx b ci : Nat} (M : MOK k2 0) (hl : Cond.methodLink cs idx k2.1 ∈ wT) (hi : Cond.instanceMethod k2.1 ∈ wT) (hse : Cond.selects Cn k2.1 k2.1 ∈ wT) (hcl : xjCl[ci]? = some (Cn, T, N)) (hkb : kd b = (0, ci)) (hd : decode k.2.1 pc = .ok (.invokevirtual idx, 3)) (hp : pc + 3 = pc2) (he : k.1.cls = cs) (hd2 : d2 + 1 ≤ d) (hm : k2.2.2.1 ≤ 23) (hst : (st.map fun v => v.category).sum ≤ 8) (hr : ∀ x, rv k2 x = some (vl x)) (kk : CJ d2 k2 [.ref b] h (fun x h' => XJ sc d k h' pc2 lo (vl x :: st) Q)) : XJ sc d k h pc lo (.ref b :: st) Q := by
  subst hp
  have e : (fun x h' => XJ sc d k h' (pc + 3) lo ((rv k2 x).toList ++ st) Q) = (fun x h' => XJ sc d k h' (pc + 3) lo (vl x :: st) Q) := by
    funext x h'
    rw [hr x]
    rfl
  refine xg_callV (as := []) M hl hi hse hcl hkb hd he rfl hd2 hm hst ?_
  rw [e]
  exact kk
theorem xj_S0V {sc : Option (Nat × (Int → Int))} {d d2 : Nat} {k k2 : MI} {h : Hp} {pc pc2 : Nat} {lo : Lo} {st : List Value} {Q : Int → Hp → Prop} {cs : String} {idx : Nat} (M : MOK k2 0) (hl : Cond.methodLink cs idx k2.1 ∈ wT) (hs : Cond.static k2.1 ∈ wT) (hd : decode k.2.1 pc = .ok (.invokestatic idx, 3)) (hp : pc + 3 = pc2) (he : k.1.cls = cs) (hd2 : d2 + 1 ≤ d) (hm : k2.2.2.1 ≤ 23) (hst : (st.map fun v => v.category).sum ≤ 8) (hr : ∀ x, rv k2 x = none) (kk : CJ d2 k2 [] h (fun x h' => XJ sc d k h' pc2 lo (st) Q)) : XJ sc d k h pc lo (st) Q := by
  subst hp
  have e : (fun x h' => XJ sc d k h' (pc + 3) lo ((rv k2 x).toList ++ st) Q) = (fun x h' => XJ sc d k h' (pc + 3) lo (st) Q) := by
    funext x h'
    rw [hr x]
    rfl
  refine xg_callS (as := []) M hl hs hd he rfl hd2 hm hst ?_
  rw [e]
  exact kk
theorem xj_N0V {sc : Option (Nat × (Int → Int))} {d d2 : Nat} {k k2 : MI} {h : Hp} {pc pc2 : Nat} {lo : Lo} {st : List Value} {Q : Int → Hp → Prop} {cs host : String} {idx : Nat} (M : MOK k2 0) (hl : (cs, idx, k2.1, host) ∈ nestL) (hs : Cond.static k2.1 ∈ wT) (hd : decode k.2.1 pc = .ok (.invokestatic idx, 3)) (hp : pc + 3 = pc2) (he : k.1.cls = cs) (hd2 : d2 + 1 ≤ d) (hm : k2.2.2.1 ≤ 23) (hst : (st.map fun v => v.category).sum ≤ 8) (hr : ∀ x, rv k2 x = none) (kk : CJ d2 k2 [] h (fun x h' => XJ sc d k h' pc2 lo (st) Q)) : XJ sc d k h pc lo (st) Q := by
  subst hp
  have e : (fun x h' => XJ sc d k h' (pc + 3) lo ((rv k2 x).toList ++ st) Q) = (fun x h' => XJ sc d k h' (pc + 3) lo (st) Q) := by
    funext x h'
    rw [hr x]
    rfl
  refine xg_callN (as := []) M hl hs hd he rfl hd2 hm hst ?_
  rw [e]
  exact kk
theorem xj_V0V {sc : Option (Nat × (Int → Int))} {d d2 : Nat} {k k2 : MI} {h : Hp} {pc pc2 : Nat} {lo : Lo} {st : List Value} {Q : Int → Hp → Prop} {cs Cn : String} {T : u_T} {N idx b ci : Nat} (M : MOK k2 0) (hl : Cond.methodLink cs idx k2.1 ∈ wT) (hi : Cond.instanceMethod k2.1 ∈ wT) (hse : Cond.selects Cn k2.1 k2.1 ∈ wT) (hcl : xjCl[ci]? = some (Cn, T, N)) (hkb : kd b = (0, ci)) (hd : decode k.2.1 pc = .ok (.invokevirtual idx, 3)) (hp : pc + 3 = pc2) (he : k.1.cls = cs) (hd2 : d2 + 1 ≤ d) (hm : k2.2.2.1 ≤ 23) (hst : (st.map fun v => v.category).sum ≤ 8) (hr : ∀ x, rv k2 x = none) (kk : CJ d2 k2 [.ref b] h (fun x h' => XJ sc d k h' pc2 lo (st) Q)) : XJ sc d k h pc lo (.ref b :: st) Q := by
  subst hp
  have e : (fun x h' => XJ sc d k h' (pc + 3) lo ((rv k2 x).toList ++ st) Q) = (fun x h' => XJ sc d k h' (pc + 3) lo (st) Q) := by
    funext x h'
    rw [hr x]
    rfl
  refine xg_callV (as := []) M hl hi hse hcl hkb hd he rfl hd2 hm hst ?_
  rw [e]
  exact kk
theorem xj_S1I {sc : Option (Nat × (Int → Int))} {d d2 : Nat} {k k2 : MI} {h : Hp} {pc pc2 : Nat} {lo : Lo} {st : List Value} {Q : Int → Hp → Prop} {a1 : Value} {cs : String} {idx : Nat} (M : MOK k2 1) (hl : Cond.methodLink cs idx k2.1 ∈ wT) (hs : Cond.static k2.1 ∈ wT) (hd : decode k.2.1 pc = .ok (.invokestatic idx, 3)) (hp : pc + 3 = pc2) (he : k.1.cls = cs) (hd2 : d2 + 1 ≤ d) (hm : k2.2.2.1 ≤ 23) (hst : (st.map fun v => v.category).sum ≤ 8) (hr : ∀ x, rv k2 x = some (vi x)) (kk : CJ d2 k2 [a1] h (fun x h' => XJ sc d k h' pc2 lo (vi x :: st) Q)) : XJ sc d k h pc lo (a1 :: st) Q := by
  subst hp
  have e : (fun x h' => XJ sc d k h' (pc + 3) lo ((rv k2 x).toList ++ st) Q) = (fun x h' => XJ sc d k h' (pc + 3) lo (vi x :: st) Q) := by
    funext x h'
    rw [hr x]
    rfl
  refine xg_callS (as := [a1]) M hl hs hd he rfl hd2 hm hst ?_
  rw [e]
  exact kk
theorem xj_N1I {sc : Option (Nat × (Int → Int))} {d d2 : Nat} {k k2 : MI} {h : Hp} {pc pc2 : Nat} {lo : Lo} {st : List Value} {Q : Int → Hp → Prop} {a1 : Value} {cs host : String} {idx : Nat} (M : MOK k2 1) (hl : (cs, idx, k2.1, host) ∈ nestL) (hs : Cond.static k2.1 ∈ wT) (hd : decode k.2.1 pc = .ok (.invokestatic idx, 3)) (hp : pc + 3 = pc2) (he : k.1.cls = cs) (hd2 : d2 + 1 ≤ d) (hm : k2.2.2.1 ≤ 23) (hst : (st.map fun v => v.category).sum ≤ 8) (hr : ∀ x, rv k2 x = some (vi x)) (kk : CJ d2 k2 [a1] h (fun x h' => XJ sc d k h' pc2 lo (vi x :: st) Q)) : XJ sc d k h pc lo (a1 :: st) Q := by
  subst hp
  have e : (fun x h' => XJ sc d k h' (pc + 3) lo ((rv k2 x).toList ++ st) Q) = (fun x h' => XJ sc d k h' (pc + 3) lo (vi x :: st) Q) := by
    funext x h'
    rw [hr x]
    rfl
  refine xg_callN (as := [a1]) M hl hs hd he rfl hd2 hm hst ?_
  rw [e]
  exact kk
theorem xj_V1I {sc : Option (Nat × (Int → Int))} {d d2 : Nat} {k k2 : MI} {h : Hp} {pc pc2 : Nat} {lo : Lo} {st : List Value} {Q : Int → Hp → Prop} {a1 : Value} {cs Cn : String} {T : u_T} {N idx b ci : Nat} (M : MOK k2 1) (hl : Cond.methodLink cs idx k2.1 ∈ wT) (hi : Cond.instanceMethod k2.1 ∈ wT) (hse : Cond.selects Cn k2.1 k2.1 ∈ wT) (hcl : xjCl[ci]? = some (Cn, T, N)) (hkb : kd b = (0, ci)) (hd : decode k.2.1 pc = .ok (.invokevirtual idx, 3)) (hp : pc + 3 = pc2) (he : k.1.cls = cs) (hd2 : d2 + 1 ≤ d) (hm : k2.2.2.1 ≤ 23) (hst : (st.map fun v => v.category).sum ≤ 8) (hr : ∀ x, rv k2 x = some (vi x)) (kk : CJ d2 k2 [.ref b, a1] h (fun x h' => XJ sc d k h' pc2 lo (vi x :: st) Q)) : XJ sc d k h pc lo (a1 :: .ref b :: st) Q := by
  subst hp
  have e : (fun x h' => XJ sc d k h' (pc + 3) lo ((rv k2 x).toList ++ st) Q) = (fun x h' => XJ sc d k h' (pc + 3) lo (vi x :: st) Q) := by
    funext x h'
    rw [hr x]
    rfl
  refine xg_callV (as := [a1]) M hl hi hse hcl hkb hd he rfl hd2 hm hst ?_
  rw [e]
  exact kk
theorem xj_S1J {sc : Option (Nat × (Int → Int))} {d d2 : Nat} {k k2 : MI} {h : Hp} {pc pc2 : Nat} {lo : Lo} {st : List Value} {Q : Int → Hp → Prop} {a1 : Value} {cs : String} {idx : Nat} (M : MOK k2 1) (hl : Cond.methodLink cs idx k2.1 ∈ wT) (hs : Cond.static k2.1 ∈ wT) (hd : decode k.2.1 pc = .ok (.invokestatic idx, 3)) (hp : pc + 3 = pc2) (he : k.1.cls = cs) (hd2 : d2 + 1 ≤ d) (hm : k2.2.2.1 ≤ 23) (hst : (st.map fun v => v.category).sum ≤ 8) (hr : ∀ x, rv k2 x = some (vl x)) (kk : CJ d2 k2 [a1] h (fun x h' => XJ sc d k h' pc2 lo (vl x :: st) Q)) : XJ sc d k h pc lo (a1 :: st) Q := by
  subst hp
  have e : (fun x h' => XJ sc d k h' (pc + 3) lo ((rv k2 x).toList ++ st) Q) = (fun x h' => XJ sc d k h' (pc + 3) lo (vl x :: st) Q) := by
    funext x h'
    rw [hr x]
    rfl
  refine xg_callS (as := [a1]) M hl hs hd he rfl hd2 hm hst ?_
  rw [e]
  exact kk
theorem xj_N1J {sc : Option (Nat × (Int → Int))} {d d2 : Nat} {k k2 : MI} {h : Hp} {pc pc2 : Nat} {lo : Lo} {st : List Value} {Q : Int → Hp → Prop} {a1 : Value} {cs host : String} {idx : Nat} (M : MOK k2 1) (hl : (cs, idx, k2.1, host) ∈ nestL) (hs : Cond.static k2.1 ∈ wT) (hd : decode k.2.1 pc = .ok (.invokestatic idx, 3)) (hp : pc + 3 = pc2) (he : k.1.cls = cs) (hd2 : d2 + 1 ≤ d) (hm : k2.2.2.1 ≤ 23) (hst : (st.map fun v => v.category).sum ≤ 8) (hr : ∀ x, rv k2 x = some (vl x)) (kk : CJ d2 k2 [a1] h (fun x h' => XJ sc d k h' pc2 lo (vl x :: st) Q)) : XJ sc d k h pc lo (a1 :: st) Q := by
  subst hp
  have e : (fun x h' => XJ sc d k h' (pc + 3) lo ((rv k2 x).toList ++ st) Q) = (fun x h' => XJ sc d k h' (pc + 3) lo (vl x :: st) Q) := by
    funext x h'
    rw [hr x]
    rfl
  refine xg_callN (as := [a1]) M hl hs hd he rfl hd2 hm hst ?_
  rw [e]
  exact kk
theorem xj_V1J {sc : Option (Nat × (Int → Int))} {d d2 : Nat} {k k2 : MI} {h : Hp} {pc pc2 : Nat} {lo : Lo} {st : List Value} {Q : Int → Hp → Prop} {a1 : Value} {cs Cn : String} {T : u_T} {N idx b ci : Nat} (M : MOK k2 1) (hl : Cond.methodLink cs idx k2.1 ∈ wT) (hi : Cond.instanceMethod k2.1 ∈ wT) (hse : Cond.selects Cn k2.1 k2.1 ∈ wT) (hcl : xjCl[ci]? = some (Cn, T, N)) (hkb : kd b = (0, ci)) (hd : decode k.2.1 pc = .ok (.invokevirtual idx, 3)) (hp : pc + 3 = pc2) (he : k.1.cls = cs) (hd2 : d2 + 1 ≤ d) (hm : k2.2.2.1 ≤ 23) (hst : (st.map fun v => v.category).sum ≤ 8) (hr : ∀ x, rv k2 x = some (vl x)) (kk : CJ d2 k2 [.ref b, a1] h (fun x h' => XJ sc d k h' pc2 lo (vl x :: st) Q)) : XJ sc d k h pc lo (a1 :: .ref b :: st) Q := by
  subst hp
  have e : (fun x h' => XJ sc d k h' (pc + 3) lo ((rv k2 x).toList ++ st) Q) = (fun x h' => XJ sc d k h' (pc + 3) lo (vl x :: st) Q) := by
    funext x h'
    rw [hr x]
    rfl
  refine xg_callV (as := [a1]) M hl hi hse hcl hkb hd he rfl hd2 hm hst ?_
  rw [e]
  exact kk
theorem xj_S1V {sc : Option (Nat × (Int → Int))} {d d2 : Nat} {k k2 : MI} {h : Hp} {pc pc2 : Nat} {lo : Lo} {st : List Value} {Q : Int → Hp → Prop} {a1 : Value} {cs : String} {idx : Nat} (M : MOK k2 1) (hl : Cond.methodLink cs idx k2.1 ∈ wT) (hs : Cond.static k2.1 ∈ wT) (hd : decode k.2.1 pc = .ok (.invokestatic idx, 3)) (hp : pc + 3 = pc2) (he : k.1.cls = cs) (hd2 : d2 + 1 ≤ d) (hm : k2.2.2.1 ≤ 23) (hst : (st.map fun v => v.category).sum ≤ 8) (hr : ∀ x, rv k2 x = none) (kk : CJ d2 k2 [a1] h (fun x h' => XJ sc d k h' pc2 lo (st) Q)) : XJ sc d k h pc lo (a1 :: st) Q := by
  subst hp
  have e : (fun x h' => XJ sc d k h' (pc + 3) lo ((rv k2 x).toList ++ st) Q) = (fun x h' => XJ sc d k h' (pc + 3) lo (st) Q) := by
    funext x h'
    rw [hr x]
    rfl
  refine xg_callS (as := [a1]) M hl hs hd he rfl hd2 hm hst ?_
  rw [e]
  exact kk
theorem xj_N1V {sc : Option (Nat × (Int → Int))} {d d2 : Nat} {k k2 : MI} {h : Hp} {pc pc2 : Nat} {lo : Lo} {st : List Value} {Q : Int → Hp → Prop} {a1 : Value} {cs host : String} {idx : Nat} (M : MOK k2 1) (hl : (cs, idx, k2.1, host) ∈ nestL) (hs : Cond.static k2.1 ∈ wT) (hd : decode k.2.1 pc = .ok (.invokestatic idx, 3)) (hp : pc + 3 = pc2) (he : k.1.cls = cs) (hd2 : d2 + 1 ≤ d) (hm : k2.2.2.1 ≤ 23) (hst : (st.map fun v => v.category).sum ≤ 8) (hr : ∀ x, rv k2 x = none) (kk : CJ d2 k2 [a1] h (fun x h' => XJ sc d k h' pc2 lo (st) Q)) : XJ sc d k h pc lo (a1 :: st) Q := by
  subst hp
  have e : (fun x h' => XJ sc d k h' (pc + 3) lo ((rv k2 x).toList ++ st) Q) = (fun x h' => XJ sc d k h' (pc + 3) lo (st) Q) := by
    funext x h'
    rw [hr x]
    rfl
  refine xg_callN (as := [a1]) M hl hs hd he rfl hd2 hm hst ?_
  rw [e]
  exact kk
theorem xj_V1V {sc : Option (Nat × (Int → Int))} {d d2 : Nat} {k k2 : MI} {h : Hp} {pc pc2 : Nat} {lo : Lo} {st : List Value} {Q : Int → Hp → Prop} {a1 : Value} {cs Cn : String} {T : u_T} {N idx b ci : Nat} (M : MOK k2 1) (hl : Cond.methodLink cs idx k2.1 ∈ wT) (hi : Cond.instanceMethod k2.1 ∈ wT) (hse : Cond.selects Cn k2.1 k2.1 ∈ wT) (hcl : xjCl[ci]? = some (Cn, T, N)) (hkb : kd b = (0, ci)) (hd : decode k.2.1 pc = .ok (.invokevirtual idx, 3)) (hp : pc + 3 = pc2) (he : k.1.cls = cs) (hd2 : d2 + 1 ≤ d) (hm : k2.2.2.1 ≤ 23) (hst : (st.map fun v => v.category).sum ≤ 8) (hr : ∀ x, rv k2 x = none) (kk : CJ d2 k2 [.ref b, a1] h (fun x h' => XJ sc d k h' pc2 lo (st) Q)) : XJ sc d k h pc lo (a1 :: .ref b :: st) Q := by
  subst hp
  have e : (fun x h' => XJ sc d k h' (pc + 3) lo ((rv k2 x).toList ++ st) Q) = (fun x h' => XJ sc d k h' (pc + 3) lo (st) Q) := by
    funext x h'
    rw [hr x]
    rfl
  refine xg_callV (as := [a1]) M hl hi hse hcl hkb hd he rfl hd2 hm hst ?_
  rw [e]
  exact kk
theorem xj_S2I {sc : Option (Nat × (Int → Int))} {d d2 : Nat} {k k2 : MI} {h : Hp} {pc pc2 : Nat} {lo : Lo} {st : List Value} {Q : Int → Hp → Prop} {a1 a2 : Value} {cs : String} {idx : Nat} (M : MOK k2 2) (hl : Cond.methodLink cs idx k2.1 ∈ wT) (hs : Cond.static k2.1 ∈ wT) (hd : decode k.2.1 pc = .ok (.invokestatic idx, 3)) (hp : pc + 3 = pc2) (he : k.1.cls = cs) (hd2 : d2 + 1 ≤ d) (hm : k2.2.2.1 ≤ 23) (hst : (st.map fun v => v.category).sum ≤ 8) (hr : ∀ x, rv k2 x = some (vi x)) (kk : CJ d2 k2 [a1, a2] h (fun x h' => XJ sc d k h' pc2 lo (vi x :: st) Q)) : XJ sc d k h pc lo (a2 :: a1 :: st) Q := by
  subst hp
  have e : (fun x h' => XJ sc d k h' (pc + 3) lo ((rv k2 x).toList ++ st) Q) = (fun x h' => XJ sc d k h' (pc + 3) lo (vi x :: st) Q) := by
    funext x h'
    rw [hr x]
    rfl
  refine xg_callS (as := [a1, a2]) M hl hs hd he rfl hd2 hm hst ?_
  rw [e]
  exact kk
theorem xj_N2I {sc : Option (Nat × (Int → Int))} {d d2 : Nat} {k k2 : MI} {h : Hp} {pc pc2 : Nat} {lo : Lo} {st : List Value} {Q : Int → Hp → Prop} {a1 a2 : Value} {cs host : String} {idx : Nat} (M : MOK k2 2) (hl : (cs, idx, k2.1, host) ∈ nestL) (hs : Cond.static k2.1 ∈ wT) (hd : decode k.2.1 pc = .ok (.invokestatic idx, 3)) (hp : pc + 3 = pc2) (he : k.1.cls = cs) (hd2 : d2 + 1 ≤ d) (hm : k2.2.2.1 ≤ 23) (hst : (st.map fun v => v.category).sum ≤ 8) (hr : ∀ x, rv k2 x = some (vi x)) (kk : CJ d2 k2 [a1, a2] h (fun x h' => XJ sc d k h' pc2 lo (vi x :: st) Q)) : XJ sc d k h pc lo (a2 :: a1 :: st) Q := by
  subst hp
  have e : (fun x h' => XJ sc d k h' (pc + 3) lo ((rv k2 x).toList ++ st) Q) = (fun x h' => XJ sc d k h' (pc + 3) lo (vi x :: st) Q) := by
    funext x h'
    rw [hr x]
    rfl
  refine xg_callN (as := [a1, a2]) M hl hs hd he rfl hd2 hm hst ?_
  rw [e]
  exact kk
theorem xj_V2I {sc : Option (Nat × (Int → Int))} {d d2 : Nat} {k k2 : MI} {h : Hp} {pc pc2 : Nat} {lo : Lo} {st : List Value} {Q : Int → Hp → Prop} {a1 a2 : Value} {cs Cn : String} {T : u_T} {N idx b ci : Nat} (M : MOK k2 2) (hl : Cond.methodLink cs idx k2.1 ∈ wT) (hi : Cond.instanceMethod k2.1 ∈ wT) (hse : Cond.selects Cn k2.1 k2.1 ∈ wT) (hcl : xjCl[ci]? = some (Cn, T, N)) (hkb : kd b = (0, ci)) (hd : decode k.2.1 pc = .ok (.invokevirtual idx, 3)) (hp : pc + 3 = pc2) (he : k.1.cls = cs) (hd2 : d2 + 1 ≤ d) (hm : k2.2.2.1 ≤ 23) (hst : (st.map fun v => v.category).sum ≤ 8) (hr : ∀ x, rv k2 x = some (vi x)) (kk : CJ d2 k2 [.ref b, a1, a2] h (fun x h' => XJ sc d k h' pc2 lo (vi x :: st) Q)) : XJ sc d k h pc lo (a2 :: a1 :: .ref b :: st) Q := by
  subst hp
  have e : (fun x h' => XJ sc d k h' (pc + 3) lo ((rv k2 x).toList ++ st) Q) = (fun x h' => XJ sc d k h' (pc + 3) lo (vi x :: st) Q) := by
    funext x h'
    rw [hr x]
    rfl
  refine xg_callV (as := [a1, a2]) M hl hi hse hcl hkb hd he rfl hd2 hm hst ?_
  rw [e]
  exact kk
theorem xj_S2J {sc : Option (Nat × (Int → Int))} {d d2 : Nat} {k k2 : MI} {h : Hp} {pc pc2 : Nat} {lo : Lo} {st : List Value} {Q : Int → Hp → Prop} {a1 a2 : Value} {cs : String} {idx : Nat} (M : MOK k2 2) (hl : Cond.methodLink cs idx k2.1 ∈ wT) (hs : Cond.static k2.1 ∈ wT) (hd : decode k.2.1 pc = .ok (.invokestatic idx, 3)) (hp : pc + 3 = pc2) (he : k.1.cls = cs) (hd2 : d2 + 1 ≤ d) (hm : k2.2.2.1 ≤ 23) (hst : (st.map fun v => v.category).sum ≤ 8) (hr : ∀ x, rv k2 x = some (vl x)) (kk : CJ d2 k2 [a1, a2] h (fun x h' => XJ sc d k h' pc2 lo (vl x :: st) Q)) : XJ sc d k h pc lo (a2 :: a1 :: st) Q := by
  subst hp
  have e : (fun x h' => XJ sc d k h' (pc + 3) lo ((rv k2 x).toList ++ st) Q) = (fun x h' => XJ sc d k h' (pc + 3) lo (vl x :: st) Q) := by
    funext x h'
    rw [hr x]
    rfl
  refine xg_callS (as := [a1, a2]) M hl hs hd he rfl hd2 hm hst ?_
  rw [e]
  exact kk
theorem xj_N2J {sc : Option (Nat × (Int → Int))} {d d2 : Nat} {k k2 : MI} {h : Hp} {pc pc2 : Nat} {lo : Lo} {st : List Value} {Q : Int → Hp → Prop} {a1 a2 : Value} {cs host : String} {idx : Nat} (M : MOK k2 2) (hl : (cs, idx, k2.1, host) ∈ nestL) (hs : Cond.static k2.1 ∈ wT) (hd : decode k.2.1 pc = .ok (.invokestatic idx, 3)) (hp : pc + 3 = pc2) (he : k.1.cls = cs) (hd2 : d2 + 1 ≤ d) (hm : k2.2.2.1 ≤ 23) (hst : (st.map fun v => v.category).sum ≤ 8) (hr : ∀ x, rv k2 x = some (vl x)) (kk : CJ d2 k2 [a1, a2] h (fun x h' => XJ sc d k h' pc2 lo (vl x :: st) Q)) : XJ sc d k h pc lo (a2 :: a1 :: st) Q := by
  subst hp
  have e : (fun x h' => XJ sc d k h' (pc + 3) lo ((rv k2 x).toList ++ st) Q) = (fun x h' => XJ sc d k h' (pc + 3) lo (vl x :: st) Q) := by
    funext x h'
    rw [hr x]
    rfl
  refine xg_callN (as := [a1, a2]) M hl hs hd he rfl hd2 hm hst ?_
  rw [e]
  exact kk
theorem xj_V2J {sc : Option (Nat × (Int → Int))} {d d2 : Nat} {k k2 : MI} {h : Hp} {pc pc2 : Nat} {lo : Lo} {st : List Value} {Q : Int → Hp → Prop} {a1 a2 : Value} {cs Cn : String} {T : u_T} {N idx b ci : Nat} (M : MOK k2 2) (hl : Cond.methodLink cs idx k2.1 ∈ wT) (hi : Cond.instanceMethod k2.1 ∈ wT) (hse : Cond.selects Cn k2.1 k2.1 ∈ wT) (hcl : xjCl[ci]? = some (Cn, T, N)) (hkb : kd b = (0, ci)) (hd : decode k.2.1 pc = .ok (.invokevirtual idx, 3)) (hp : pc + 3 = pc2) (he : k.1.cls = cs) (hd2 : d2 + 1 ≤ d) (hm : k2.2.2.1 ≤ 23) (hst : (st.map fun v => v.category).sum ≤ 8) (hr : ∀ x, rv k2 x = some (vl x)) (kk : CJ d2 k2 [.ref b, a1, a2] h (fun x h' => XJ sc d k h' pc2 lo (vl x :: st) Q)) : XJ sc d k h pc lo (a2 :: a1 :: .ref b :: st) Q := by
  subst hp
  have e : (fun x h' => XJ sc d k h' (pc + 3) lo ((rv k2 x).toList ++ st) Q) = (fun x h' => XJ sc d k h' (pc + 3) lo (vl x :: st) Q) := by
    funext x h'
    rw [hr x]
    rfl
  refine xg_callV (as := [a1, a2]) M hl hi hse hcl hkb hd he rfl hd2 hm hst ?_
  rw [e]
  exact kk
theorem xj_S2V {sc : Option (Nat × (Int → Int))} {d d2 : Nat} {k k2 : MI} {h : Hp} {pc pc2 : Nat} {lo : Lo} {st : List Value} {Q : Int → Hp → Prop} {a1 a2 : Value} {cs : String} {idx : Nat} (M : MOK k2 2) (hl : Cond.methodLink cs idx k2.1 ∈ wT) (hs : Cond.static k2.1 ∈ wT) (hd : decode k.2.1 pc = .ok (.invokestatic idx, 3)) (hp : pc + 3 = pc2) (he : k.1.cls = cs) (hd2 : d2 + 1 ≤ d) (hm : k2.2.2.1 ≤ 23) (hst : (st.map fun v => v.category).sum ≤ 8) (hr : ∀ x, rv k2 x = none) (kk : CJ d2 k2 [a1, a2] h (fun x h' => XJ sc d k h' pc2 lo (st) Q)) : XJ sc d k h pc lo (a2 :: a1 :: st) Q := by
  subst hp
  have e : (fun x h' => XJ sc d k h' (pc + 3) lo ((rv k2 x).toList ++ st) Q) = (fun x h' => XJ sc d k h' (pc + 3) lo (st) Q) := by
    funext x h'
    rw [hr x]
    rfl
  refine xg_callS (as := [a1, a2]) M hl hs hd he rfl hd2 hm hst ?_
  rw [e]
  exact kk
theorem xj_N2V {sc : Option (Nat × (Int → Int))} {d d2 : Nat} {k k2 : MI} {h : Hp} {pc pc2 : Nat} {lo : Lo} {st : List Value} {Q : Int → Hp → Prop} {a1 a2 : Value} {cs host : String} {idx : Nat} (M : MOK k2 2) (hl : (cs, idx, k2.1, host) ∈ nestL) (hs : Cond.static k2.1 ∈ wT) (hd : decode k.2.1 pc = .ok (.invokestatic idx, 3)) (hp : pc + 3 = pc2) (he : k.1.cls = cs) (hd2 : d2 + 1 ≤ d) (hm : k2.2.2.1 ≤ 23) (hst : (st.map fun v => v.category).sum ≤ 8) (hr : ∀ x, rv k2 x = none) (kk : CJ d2 k2 [a1, a2] h (fun x h' => XJ sc d k h' pc2 lo (st) Q)) : XJ sc d k h pc lo (a2 :: a1 :: st) Q := by
  subst hp
  have e : (fun x h' => XJ sc d k h' (pc + 3) lo ((rv k2 x).toList ++ st) Q) = (fun x h' => XJ sc d k h' (pc + 3) lo (st) Q) := by
    funext x h'
    rw [hr x]
    rfl
  refine xg_callN (as := [a1, a2]) M hl hs hd he rfl hd2 hm hst ?_
  rw [e]
  exact kk
theorem xj_V2V {sc : Option (Nat × (Int → Int))} {d d2 : Nat} {k k2 : MI} {h : Hp} {pc pc2 : Nat} {lo : Lo} {st : List Value} {Q : Int → Hp → Prop} {a1 a2 : Value} {cs Cn : String} {T : u_T} {N idx b ci : Nat} (M : MOK k2 2) (hl : Cond.methodLink cs idx k2.1 ∈ wT) (hi : Cond.instanceMethod k2.1 ∈ wT) (hse : Cond.selects Cn k2.1 k2.1 ∈ wT) (hcl : xjCl[ci]? = some (Cn, T, N)) (hkb : kd b = (0, ci)) (hd : decode k.2.1 pc = .ok (.invokevirtual idx, 3)) (hp : pc + 3 = pc2) (he : k.1.cls = cs) (hd2 : d2 + 1 ≤ d) (hm : k2.2.2.1 ≤ 23) (hst : (st.map fun v => v.category).sum ≤ 8) (hr : ∀ x, rv k2 x = none) (kk : CJ d2 k2 [.ref b, a1, a2] h (fun x h' => XJ sc d k h' pc2 lo (st) Q)) : XJ sc d k h pc lo (a2 :: a1 :: .ref b :: st) Q := by
  subst hp
  have e : (fun x h' => XJ sc d k h' (pc + 3) lo ((rv k2 x).toList ++ st) Q) = (fun x h' => XJ sc d k h' (pc + 3) lo (st) Q) := by
    funext x h'
    rw [hr x]
    rfl
  refine xg_callV (as := [a1, a2]) M hl hi hse hcl hkb hd he rfl hd2 hm hst ?_
  rw [e]
  exact kk
theorem xj_S3I {sc : Option (Nat × (Int → Int))} {d d2 : Nat} {k k2 : MI} {h : Hp} {pc pc2 : Nat} {lo : Lo} {st : List Value} {Q : Int → Hp → Prop} {a1 a2 a3 : Value} {cs : String} {idx : Nat} (M : MOK k2 3) (hl : Cond.methodLink cs idx k2.1 ∈ wT) (hs : Cond.static k2.1 ∈ wT) (hd : decode k.2.1 pc = .ok (.invokestatic idx, 3)) (hp : pc + 3 = pc2) (he : k.1.cls = cs) (hd2 : d2 + 1 ≤ d) (hm : k2.2.2.1 ≤ 23) (hst : (st.map fun v => v.category).sum ≤ 8) (hr : ∀ x, rv k2 x = some (vi x)) (kk : CJ d2 k2 [a1, a2, a3] h (fun x h' => XJ sc d k h' pc2 lo (vi x :: st) Q)) : XJ sc d k h pc lo (a3 :: a2 :: a1 :: st) Q := by
  subst hp
  have e : (fun x h' => XJ sc d k h' (pc + 3) lo ((rv k2 x).toList ++ st) Q) = (fun x h' => XJ sc d k h' (pc + 3) lo (vi x :: st) Q) := by
    funext x h'
    rw [hr x]
    rfl
  refine xg_callS (as := [a1, a2, a3]) M hl hs hd he rfl hd2 hm hst ?_
  rw [e]
  exact kk
theorem xj_N3I {sc : Option (Nat × (Int → Int))} {d d2 : Nat} {k k2 : MI} {h : Hp} {pc pc2 : Nat} {lo : Lo} {st : List Value} {Q : Int → Hp → Prop} {a1 a2 a3 : Value} {cs host : String} {idx : Nat} (M : MOK k2 3) (hl : (cs, idx, k2.1, host) ∈ nestL) (hs : Cond.static k2.1 ∈ wT) (hd : decode k.2.1 pc = .ok (.invokestatic idx, 3)) (hp : pc + 3 = pc2) (he : k.1.cls = cs) (hd2 : d2 + 1 ≤ d) (hm : k2.2.2.1 ≤ 23) (hst : (st.map fun v => v.category).sum ≤ 8) (hr : ∀ x, rv k2 x = some (vi x)) (kk : CJ d2 k2 [a1, a2, a3] h (fun x h' => XJ sc d k h' pc2 lo (vi x :: st) Q)) : XJ sc d k h pc lo (a3 :: a2 :: a1 :: st) Q := by
  subst hp
  have e : (fun x h' => XJ sc d k h' (pc + 3) lo ((rv k2 x).toList ++ st) Q) = (fun x h' => XJ sc d k h' (pc + 3) lo (vi x :: st) Q) := by
    funext x h'
    rw [hr x]
    rfl
  refine xg_callN (as := [a1, a2, a3]) M hl hs hd he rfl hd2 hm hst ?_
  rw [e]
  exact kk
theorem xj_V3I {sc : Option (Nat × (Int → Int))} {d d2 : Nat} {k k2 : MI} {h : Hp} {pc pc2 : Nat} {lo : Lo} {st : List Value} {Q : Int → Hp → Prop} {a1 a2 a3 : Value} {cs Cn : String} {T : u_T} {N idx b ci : Nat} (M : MOK k2 3) (hl : Cond.methodLink cs idx k2.1 ∈ wT) (hi : Cond.instanceMethod k2.1 ∈ wT) (hse : Cond.selects Cn k2.1 k2.1 ∈ wT) (hcl : xjCl[ci]? = some (Cn, T, N)) (hkb : kd b = (0, ci)) (hd : decode k.2.1 pc = .ok (.invokevirtual idx, 3)) (hp : pc + 3 = pc2) (he : k.1.cls = cs) (hd2 : d2 + 1 ≤ d) (hm : k2.2.2.1 ≤ 23) (hst : (st.map fun v => v.category).sum ≤ 8) (hr : ∀ x, rv k2 x = some (vi x)) (kk : CJ d2 k2 [.ref b, a1, a2, a3] h (fun x h' => XJ sc d k h' pc2 lo (vi x :: st) Q)) : XJ sc d k h pc lo (a3 :: a2 :: a1 :: .ref b :: st) Q := by
  subst hp
  have e : (fun x h' => XJ sc d k h' (pc + 3) lo ((rv k2 x).toList ++ st) Q) = (fun x h' => XJ sc d k h' (pc + 3) lo (vi x :: st) Q) := by
    funext x h'
    rw [hr x]
    rfl
  refine xg_callV (as := [a1, a2, a3]) M hl hi hse hcl hkb hd he rfl hd2 hm hst ?_
  rw [e]
  exact kk
theorem xj_S3J {sc : Option (Nat × (Int → Int))} {d d2 : Nat} {k k2 : MI} {h : Hp} {pc pc2 : Nat} {lo : Lo} {st : List Value} {Q : Int → Hp → Prop} {a1 a2 a3 : Value} {cs : String} {idx : Nat} (M : MOK k2 3) (hl : Cond.methodLink cs idx k2.1 ∈ wT) (hs : Cond.static k2.1 ∈ wT) (hd : decode k.2.1 pc = .ok (.invokestatic idx, 3)) (hp : pc + 3 = pc2) (he : k.1.cls = cs) (hd2 : d2 + 1 ≤ d) (hm : k2.2.2.1 ≤ 23) (hst : (st.map fun v => v.category).sum ≤ 8) (hr : ∀ x, rv k2 x = some (vl x)) (kk : CJ d2 k2 [a1, a2, a3] h (fun x h' => XJ sc d k h' pc2 lo (vl x :: st) Q)) : XJ sc d k h pc lo (a3 :: a2 :: a1 :: st) Q := by
  subst hp
  have e : (fun x h' => XJ sc d k h' (pc + 3) lo ((rv k2 x).toList ++ st) Q) = (fun x h' => XJ sc d k h' (pc + 3) lo (vl x :: st) Q) := by
    funext x h'
    rw [hr x]
    rfl
  refine xg_callS (as := [a1, a2, a3]) M hl hs hd he rfl hd2 hm hst ?_
  rw [e]
  exact kk
theorem xj_N3J {sc : Option (Nat × (Int → Int))} {d d2 : Nat} {k k2 : MI} {h : Hp} {pc pc2 : Nat} {lo : Lo} {st : List Value} {Q : Int → Hp → Prop} {a1 a2 a3 : Value} {cs host : String} {idx : Nat} (M : MOK k2 3) (hl : (cs, idx, k2.1, host) ∈ nestL) (hs : Cond.static k2.1 ∈ wT) (hd : decode k.2.1 pc = .ok (.invokestatic idx, 3)) (hp : pc + 3 = pc2) (he : k.1.cls = cs) (hd2 : d2 + 1 ≤ d) (hm : k2.2.2.1 ≤ 23) (hst : (st.map fun v => v.category).sum ≤ 8) (hr : ∀ x, rv k2 x = some (vl x)) (kk : CJ d2 k2 [a1, a2, a3] h (fun x h' => XJ sc d k h' pc2 lo (vl x :: st) Q)) : XJ sc d k h pc lo (a3 :: a2 :: a1 :: st) Q := by
  subst hp
  have e : (fun x h' => XJ sc d k h' (pc + 3) lo ((rv k2 x).toList ++ st) Q) = (fun x h' => XJ sc d k h' (pc + 3) lo (vl x :: st) Q) := by
    funext x h'
    rw [hr x]
    rfl
  refine xg_callN (as := [a1, a2, a3]) M hl hs hd he rfl hd2 hm hst ?_
  rw [e]
  exact kk
theorem xj_V3J {sc : Option (Nat × (Int → Int))} {d d2 : Nat} {k k2 : MI} {h : Hp} {pc pc2 : Nat} {lo : Lo} {st : List Value} {Q : Int → Hp → Prop} {a1 a2 a3 : Value} {cs Cn : String} {T : u_T} {N idx b ci : Nat} (M : MOK k2 3) (hl : Cond.methodLink cs idx k2.1 ∈ wT) (hi : Cond.instanceMethod k2.1 ∈ wT) (hse : Cond.selects Cn k2.1 k2.1 ∈ wT) (hcl : xjCl[ci]? = some (Cn, T, N)) (hkb : kd b = (0, ci)) (hd : decode k.2.1 pc = .ok (.invokevirtual idx, 3)) (hp : pc + 3 = pc2) (he : k.1.cls = cs) (hd2 : d2 + 1 ≤ d) (hm : k2.2.2.1 ≤ 23) (hst : (st.map fun v => v.category).sum ≤ 8) (hr : ∀ x, rv k2 x = some (vl x)) (kk : CJ d2 k2 [.ref b, a1, a2, a3] h (fun x h' => XJ sc d k h' pc2 lo (vl x :: st) Q)) : XJ sc d k h pc lo (a3 :: a2 :: a1 :: .ref b :: st) Q := by
  subst hp
  have e : (fun x h' => XJ sc d k h' (pc + 3) lo ((rv k2 x).toList ++ st) Q) = (fun x h' => XJ sc d k h' (pc + 3) lo (vl x :: st) Q) := by
    funext x h'
    rw [hr x]
    rfl
  refine xg_callV (as := [a1, a2, a3]) M hl hi hse hcl hkb hd he rfl hd2 hm hst ?_
  rw [e]
  exact kk
theorem xj_S3V {sc : Option (Nat × (Int → Int))} {d d2 : Nat} {k k2 : MI} {h : Hp} {pc pc2 : Nat} {lo : Lo} {st : List Value} {Q : Int → Hp → Prop} {a1 a2 a3 : Value} {cs : String} {idx : Nat} (M : MOK k2 3) (hl : Cond.methodLink cs idx k2.1 ∈ wT) (hs : Cond.static k2.1 ∈ wT) (hd : decode k.2.1 pc = .ok (.invokestatic idx, 3)) (hp : pc + 3 = pc2) (he : k.1.cls = cs) (hd2 : d2 + 1 ≤ d) (hm : k2.2.2.1 ≤ 23) (hst : (st.map fun v => v.category).sum ≤ 8) (hr : ∀ x, rv k2 x = none) (kk : CJ d2 k2 [a1, a2, a3] h (fun x h' => XJ sc d k h' pc2 lo (st) Q)) : XJ sc d k h pc lo (a3 :: a2 :: a1 :: st) Q := by
  subst hp
  have e : (fun x h' => XJ sc d k h' (pc + 3) lo ((rv k2 x).toList ++ st) Q) = (fun x h' => XJ sc d k h' (pc + 3) lo (st) Q) := by
    funext x h'
    rw [hr x]
    rfl
  refine xg_callS (as := [a1, a2, a3]) M hl hs hd he rfl hd2 hm hst ?_
  rw [e]
  exact kk
theorem xj_N3V {sc : Option (Nat × (Int → Int))} {d d2 : Nat} {k k2 : MI} {h : Hp} {pc pc2 : Nat} {lo : Lo} {st : List Value} {Q : Int → Hp → Prop} {a1 a2 a3 : Value} {cs host : String} {idx : Nat} (M : MOK k2 3) (hl : (cs, idx, k2.1, host) ∈ nestL) (hs : Cond.static k2.1 ∈ wT) (hd : decode k.2.1 pc = .ok (.invokestatic idx, 3)) (hp : pc + 3 = pc2) (he : k.1.cls = cs) (hd2 : d2 + 1 ≤ d) (hm : k2.2.2.1 ≤ 23) (hst : (st.map fun v => v.category).sum ≤ 8) (hr : ∀ x, rv k2 x = none) (kk : CJ d2 k2 [a1, a2, a3] h (fun x h' => XJ sc d k h' pc2 lo (st) Q)) : XJ sc d k h pc lo (a3 :: a2 :: a1 :: st) Q := by
  subst hp
  have e : (fun x h' => XJ sc d k h' (pc + 3) lo ((rv k2 x).toList ++ st) Q) = (fun x h' => XJ sc d k h' (pc + 3) lo (st) Q) := by
    funext x h'
    rw [hr x]
    rfl
  refine xg_callN (as := [a1, a2, a3]) M hl hs hd he rfl hd2 hm hst ?_
  rw [e]
  exact kk
theorem xj_V3V {sc : Option (Nat × (Int → Int))} {d d2 : Nat} {k k2 : MI} {h : Hp} {pc pc2 : Nat} {lo : Lo} {st : List Value} {Q : Int → Hp → Prop} {a1 a2 a3 : Value} {cs Cn : String} {T : u_T} {N idx b ci : Nat} (M : MOK k2 3) (hl : Cond.methodLink cs idx k2.1 ∈ wT) (hi : Cond.instanceMethod k2.1 ∈ wT) (hse : Cond.selects Cn k2.1 k2.1 ∈ wT) (hcl : xjCl[ci]? = some (Cn, T, N)) (hkb : kd b = (0, ci)) (hd : decode k.2.1 pc = .ok (.invokevirtual idx, 3)) (hp : pc + 3 = pc2) (he : k.1.cls = cs) (hd2 : d2 + 1 ≤ d) (hm : k2.2.2.1 ≤ 23) (hst : (st.map fun v => v.category).sum ≤ 8) (hr : ∀ x, rv k2 x = none) (kk : CJ d2 k2 [.ref b, a1, a2, a3] h (fun x h' => XJ sc d k h' pc2 lo (st) Q)) : XJ sc d k h pc lo (a3 :: a2 :: a1 :: .ref b :: st) Q := by
  subst hp
  have e : (fun x h' => XJ sc d k h' (pc + 3) lo ((rv k2 x).toList ++ st) Q) = (fun x h' => XJ sc d k h' (pc + 3) lo (st) Q) := by
    funext x h'
    rw [hr x]
    rfl
  refine xg_callV (as := [a1, a2, a3]) M hl hi hse hcl hkb hd he rfl hd2 hm hst ?_
  rw [e]
  exact kk
theorem xj_S4I {sc : Option (Nat × (Int → Int))} {d d2 : Nat} {k k2 : MI} {h : Hp} {pc pc2 : Nat} {lo : Lo} {st : List Value} {Q : Int → Hp → Prop} {a1 a2 a3 a4 : Value} {cs : String} {idx : Nat} (M : MOK k2 4) (hl : Cond.methodLink cs idx k2.1 ∈ wT) (hs : Cond.static k2.1 ∈ wT) (hd : decode k.2.1 pc = .ok (.invokestatic idx, 3)) (hp : pc + 3 = pc2) (he : k.1.cls = cs) (hd2 : d2 + 1 ≤ d) (hm : k2.2.2.1 ≤ 23) (hst : (st.map fun v => v.category).sum ≤ 8) (hr : ∀ x, rv k2 x = some (vi x)) (kk : CJ d2 k2 [a1, a2, a3, a4] h (fun x h' => XJ sc d k h' pc2 lo (vi x :: st) Q)) : XJ sc d k h pc lo (a4 :: a3 :: a2 :: a1 :: st) Q := by
  subst hp
  have e : (fun x h' => XJ sc d k h' (pc + 3) lo ((rv k2 x).toList ++ st) Q) = (fun x h' => XJ sc d k h' (pc + 3) lo (vi x :: st) Q) := by
    funext x h'
    rw [hr x]
    rfl
  refine xg_callS (as := [a1, a2, a3, a4]) M hl hs hd he rfl hd2 hm hst ?_
  rw [e]
  exact kk
theorem xj_N4I {sc : Option (Nat × (Int → Int))} {d d2 : Nat} {k k2 : MI} {h : Hp} {pc pc2 : Nat} {lo : Lo} {st : List Value} {Q : Int → Hp → Prop} {a1 a2 a3 a4 : Value} {cs host : String} {idx : Nat} (M : MOK k2 4) (hl : (cs, idx, k2.1, host) ∈ nestL) (hs : Cond.static k2.1 ∈ wT) (hd : decode k.2.1 pc = .ok (.invokestatic idx, 3)) (hp : pc + 3 = pc2) (he : k.1.cls = cs) (hd2 : d2 + 1 ≤ d) (hm : k2.2.2.1 ≤ 23) (hst : (st.map fun v => v.category).sum ≤ 8) (hr : ∀ x, rv k2 x = some (vi x)) (kk : CJ d2 k2 [a1, a2, a3, a4] h (fun x h' => XJ sc d k h' pc2 lo (vi x :: st) Q)) : XJ sc d k h pc lo (a4 :: a3 :: a2 :: a1 :: st) Q := by
  subst hp
  have e : (fun x h' => XJ sc d k h' (pc + 3) lo ((rv k2 x).toList ++ st) Q) = (fun x h' => XJ sc d k h' (pc + 3) lo (vi x :: st) Q) := by
    funext x h'
    rw [hr x]
    rfl
  refine xg_callN (as := [a1, a2, a3, a4]) M hl hs hd he rfl hd2 hm hst ?_
  rw [e]
  exact kk
theorem xj_V4I {sc : Option (Nat × (Int → Int))} {d d2 : Nat} {k k2 : MI} {h : Hp} {pc pc2 : Nat} {lo : Lo} {st : List Value} {Q : Int → Hp → Prop} {a1 a2 a3 a4 : Value} {cs Cn : String} {T : u_T} {N idx b ci : Nat} (M : MOK k2 4) (hl : Cond.methodLink cs idx k2.1 ∈ wT) (hi : Cond.instanceMethod k2.1 ∈ wT) (hse : Cond.selects Cn k2.1 k2.1 ∈ wT) (hcl : xjCl[ci]? = some (Cn, T, N)) (hkb : kd b = (0, ci)) (hd : decode k.2.1 pc = .ok (.invokevirtual idx, 3)) (hp : pc + 3 = pc2) (he : k.1.cls = cs) (hd2 : d2 + 1 ≤ d) (hm : k2.2.2.1 ≤ 23) (hst : (st.map fun v => v.category).sum ≤ 8) (hr : ∀ x, rv k2 x = some (vi x)) (kk : CJ d2 k2 [.ref b, a1, a2, a3, a4] h (fun x h' => XJ sc d k h' pc2 lo (vi x :: st) Q)) : XJ sc d k h pc lo (a4 :: a3 :: a2 :: a1 :: .ref b :: st) Q := by
  subst hp
  have e : (fun x h' => XJ sc d k h' (pc + 3) lo ((rv k2 x).toList ++ st) Q) = (fun x h' => XJ sc d k h' (pc + 3) lo (vi x :: st) Q) := by
    funext x h'
    rw [hr x]
    rfl
  refine xg_callV (as := [a1, a2, a3, a4]) M hl hi hse hcl hkb hd he rfl hd2 hm hst ?_
  rw [e]
  exact kk
theorem xj_S4J {sc : Option (Nat × (Int → Int))} {d d2 : Nat} {k k2 : MI} {h : Hp} {pc pc2 : Nat} {lo : Lo} {st : List Value} {Q : Int → Hp → Prop} {a1 a2 a3 a4 : Value} {cs : String} {idx : Nat} (M : MOK k2 4) (hl : Cond.methodLink cs idx k2.1 ∈ wT) (hs : Cond.static k2.1 ∈ wT) (hd : decode k.2.1 pc = .ok (.invokestatic idx, 3)) (hp : pc + 3 = pc2) (he : k.1.cls = cs) (hd2 : d2 + 1 ≤ d) (hm : k2.2.2.1 ≤ 23) (hst : (st.map fun v => v.category).sum ≤ 8) (hr : ∀ x, rv k2 x = some (vl x)) (kk : CJ d2 k2 [a1, a2, a3, a4] h (fun x h' => XJ sc d k h' pc2 lo (vl x :: st) Q)) : XJ sc d k h pc lo (a4 :: a3 :: a2 :: a1 :: st) Q := by
  subst hp
  have e : (fun x h' => XJ sc d k h' (pc + 3) lo ((rv k2 x).toList ++ st) Q) = (fun x h' => XJ sc d k h' (pc + 3) lo (vl x :: st) Q) := by
    funext x h'
    rw [hr x]
    rfl
  refine xg_callS (as := [a1, a2, a3, a4]) M hl hs hd he rfl hd2 hm hst ?_
  rw [e]
  exact kk
theorem xj_N4J {sc : Option (Nat × (Int → Int))} {d d2 : Nat} {k k2 : MI} {h : Hp} {pc pc2 : Nat} {lo : Lo} {st : List Value} {Q : Int → Hp → Prop} {a1 a2 a3 a4 : Value} {cs host : String} {idx : Nat} (M : MOK k2 4) (hl : (cs, idx, k2.1, host) ∈ nestL) (hs : Cond.static k2.1 ∈ wT) (hd : decode k.2.1 pc = .ok (.invokestatic idx, 3)) (hp : pc + 3 = pc2) (he : k.1.cls = cs) (hd2 : d2 + 1 ≤ d) (hm : k2.2.2.1 ≤ 23) (hst : (st.map fun v => v.category).sum ≤ 8) (hr : ∀ x, rv k2 x = some (vl x)) (kk : CJ d2 k2 [a1, a2, a3, a4] h (fun x h' => XJ sc d k h' pc2 lo (vl x :: st) Q)) : XJ sc d k h pc lo (a4 :: a3 :: a2 :: a1 :: st) Q := by
  subst hp
  have e : (fun x h' => XJ sc d k h' (pc + 3) lo ((rv k2 x).toList ++ st) Q) = (fun x h' => XJ sc d k h' (pc + 3) lo (vl x :: st) Q) := by
    funext x h'
    rw [hr x]
    rfl
  refine xg_callN (as := [a1, a2, a3, a4]) M hl hs hd he rfl hd2 hm hst ?_
  rw [e]
  exact kk
theorem xj_V4J {sc : Option (Nat × (Int → Int))} {d d2 : Nat} {k k2 : MI} {h : Hp} {pc pc2 : Nat} {lo : Lo} {st : List Value} {Q : Int → Hp → Prop} {a1 a2 a3 a4 : Value} {cs Cn : String} {T : u_T} {N idx b ci : Nat} (M : MOK k2 4) (hl : Cond.methodLink cs idx k2.1 ∈ wT) (hi : Cond.instanceMethod k2.1 ∈ wT) (hse : Cond.selects Cn k2.1 k2.1 ∈ wT) (hcl : xjCl[ci]? = some (Cn, T, N)) (hkb : kd b = (0, ci)) (hd : decode k.2.1 pc = .ok (.invokevirtual idx, 3)) (hp : pc + 3 = pc2) (he : k.1.cls = cs) (hd2 : d2 + 1 ≤ d) (hm : k2.2.2.1 ≤ 23) (hst : (st.map fun v => v.category).sum ≤ 8) (hr : ∀ x, rv k2 x = some (vl x)) (kk : CJ d2 k2 [.ref b, a1, a2, a3, a4] h (fun x h' => XJ sc d k h' pc2 lo (vl x :: st) Q)) : XJ sc d k h pc lo (a4 :: a3 :: a2 :: a1 :: .ref b :: st) Q := by
  subst hp
  have e : (fun x h' => XJ sc d k h' (pc + 3) lo ((rv k2 x).toList ++ st) Q) = (fun x h' => XJ sc d k h' (pc + 3) lo (vl x :: st) Q) := by
    funext x h'
    rw [hr x]
    rfl
  refine xg_callV (as := [a1, a2, a3, a4]) M hl hi hse hcl hkb hd he rfl hd2 hm hst ?_
  rw [e]
  exact kk
theorem xj_S4V {sc : Option (Nat × (Int → Int))} {d d2 : Nat} {k k2 : MI} {h : Hp} {pc pc2 : Nat} {lo : Lo} {st : List Value} {Q : Int → Hp → Prop} {a1 a2 a3 a4 : Value} {cs : String} {idx : Nat} (M : MOK k2 4) (hl : Cond.methodLink cs idx k2.1 ∈ wT) (hs : Cond.static k2.1 ∈ wT) (hd : decode k.2.1 pc = .ok (.invokestatic idx, 3)) (hp : pc + 3 = pc2) (he : k.1.cls = cs) (hd2 : d2 + 1 ≤ d) (hm : k2.2.2.1 ≤ 23) (hst : (st.map fun v => v.category).sum ≤ 8) (hr : ∀ x, rv k2 x = none) (kk : CJ d2 k2 [a1, a2, a3, a4] h (fun x h' => XJ sc d k h' pc2 lo (st) Q)) : XJ sc d k h pc lo (a4 :: a3 :: a2 :: a1 :: st) Q := by
  subst hp
  have e : (fun x h' => XJ sc d k h' (pc + 3) lo ((rv k2 x).toList ++ st) Q) = (fun x h' => XJ sc d k h' (pc + 3) lo (st) Q) := by
    funext x h'
    rw [hr x]
    rfl
  refine xg_callS (as := [a1, a2, a3, a4]) M hl hs hd he rfl hd2 hm hst ?_
  rw [e]
  exact kk
theorem xj_N4V {sc : Option (Nat × (Int → Int))} {d d2 : Nat} {k k2 : MI} {h : Hp} {pc pc2 : Nat} {lo : Lo} {st : List Value} {Q : Int → Hp → Prop} {a1 a2 a3 a4 : Value} {cs host : String} {idx : Nat} (M : MOK k2 4) (hl : (cs, idx, k2.1, host) ∈ nestL) (hs : Cond.static k2.1 ∈ wT) (hd : decode k.2.1 pc = .ok (.invokestatic idx, 3)) (hp : pc + 3 = pc2) (he : k.1.cls = cs) (hd2 : d2 + 1 ≤ d) (hm : k2.2.2.1 ≤ 23) (hst : (st.map fun v => v.category).sum ≤ 8) (hr : ∀ x, rv k2 x = none) (kk : CJ d2 k2 [a1, a2, a3, a4] h (fun x h' => XJ sc d k h' pc2 lo (st) Q)) : XJ sc d k h pc lo (a4 :: a3 :: a2 :: a1 :: st) Q := by
  subst hp
  have e : (fun x h' => XJ sc d k h' (pc + 3) lo ((rv k2 x).toList ++ st) Q) = (fun x h' => XJ sc d k h' (pc + 3) lo (st) Q) := by
    funext x h'
    rw [hr x]
    rfl
  refine xg_callN (as := [a1, a2, a3, a4]) M hl hs hd he rfl hd2 hm hst ?_
  rw [e]
  exact kk
theorem xj_V4V {sc : Option (Nat × (Int → Int))} {d d2 : Nat} {k k2 : MI} {h : Hp} {pc pc2 : Nat} {lo : Lo} {st : List Value} {Q : Int → Hp → Prop} {a1 a2 a3 a4 : Value} {cs Cn : String} {T : u_T} {N idx b ci : Nat} (M : MOK k2 4) (hl : Cond.methodLink cs idx k2.1 ∈ wT) (hi : Cond.instanceMethod k2.1 ∈ wT) (hse : Cond.selects Cn k2.1 k2.1 ∈ wT) (hcl : xjCl[ci]? = some (Cn, T, N)) (hkb : kd b = (0, ci)) (hd : decode k.2.1 pc = .ok (.invokevirtual idx, 3)) (hp : pc + 3 = pc2) (he : k.1.cls = cs) (hd2 : d2 + 1 ≤ d) (hm : k2.2.2.1 ≤ 23) (hst : (st.map fun v => v.category).sum ≤ 8) (hr : ∀ x, rv k2 x = none) (kk : CJ d2 k2 [.ref b, a1, a2, a3, a4] h (fun x h' => XJ sc d k h' pc2 lo (st) Q)) : XJ sc d k h pc lo (a4 :: a3 :: a2 :: a1 :: .ref b :: st) Q := by
  subst hp
  have e : (fun x h' => XJ sc d k h' (pc + 3) lo ((rv k2 x).toList ++ st) Q) = (fun x h' => XJ sc d k h' (pc + 3) lo (st) Q) := by
    funext x h'
    rw [hr x]
    rfl
  refine xg_callV (as := [a1, a2, a3, a4]) M hl hi hse hcl hkb hd he rfl hd2 hm hst ?_
  rw [e]
  exact kk
theorem xj_S5I {sc : Option (Nat × (Int → Int))} {d d2 : Nat} {k k2 : MI} {h : Hp} {pc pc2 : Nat} {lo : Lo} {st : List Value} {Q : Int → Hp → Prop} {a1 a2 a3 a4 a5 : Value} {cs : String} {idx : Nat} (M : MOK k2 5) (hl : Cond.methodLink cs idx k2.1 ∈ wT) (hs : Cond.static k2.1 ∈ wT) (hd : decode k.2.1 pc = .ok (.invokestatic idx, 3)) (hp : pc + 3 = pc2) (he : k.1.cls = cs) (hd2 : d2 + 1 ≤ d) (hm : k2.2.2.1 ≤ 23) (hst : (st.map fun v => v.category).sum ≤ 8) (hr : ∀ x, rv k2 x = some (vi x)) (kk : CJ d2 k2 [a1, a2, a3, a4, a5] h (fun x h' => XJ sc d k h' pc2 lo (vi x :: st) Q)) : XJ sc d k h pc lo (a5 :: a4 :: a3 :: a2 :: a1 :: st) Q := by
  subst hp
  have e : (fun x h' => XJ sc d k h' (pc + 3) lo ((rv k2 x).toList ++ st) Q) = (fun x h' => XJ sc d k h' (pc + 3) lo (vi x :: st) Q) := by
    funext x h'
    rw [hr x]
    rfl
  refine xg_callS (as := [a1, a2, a3, a4, a5]) M hl hs hd he rfl hd2 hm hst ?_
  rw [e]
  exact kk
theorem xj_N5I {sc : Option (Nat × (Int → Int))} {d d2 : Nat} {k k2 : MI} {h : Hp} {pc pc2 : Nat} {lo : Lo} {st : List Value} {Q : Int → Hp → Prop} {a1 a2 a3 a4 a5 : Value} {cs host : String} {idx : Nat} (M : MOK k2 5) (hl : (cs, idx, k2.1, host) ∈ nestL) (hs : Cond.static k2.1 ∈ wT) (hd : decode k.2.1 pc = .ok (.invokestatic idx, 3)) (hp : pc + 3 = pc2) (he : k.1.cls = cs) (hd2 : d2 + 1 ≤ d) (hm : k2.2.2.1 ≤ 23) (hst : (st.map fun v => v.category).sum ≤ 8) (hr : ∀ x, rv k2 x = some (vi x)) (kk : CJ d2 k2 [a1, a2, a3, a4, a5] h (fun x h' => XJ sc d k h' pc2 lo (vi x :: st) Q)) : XJ sc d k h pc lo (a5 :: a4 :: a3 :: a2 :: a1 :: st) Q := by
  subst hp
  have e : (fun x h' => XJ sc d k h' (pc + 3) lo ((rv k2 x).toList ++ st) Q) = (fun x h' => XJ sc d k h' (pc + 3) lo (vi x :: st) Q) := by
    funext x h'
    rw [hr x]
    rfl
  refine xg_callN (as := [a1, a2, a3, a4, a5]) M hl hs hd he rfl hd2 hm hst ?_
  rw [e]
  exact kk
theorem xj_V5I {sc : Option (Nat × (Int → Int))} {d d2 : Nat} {k k2 : MI} {h : Hp} {pc pc2 : Nat} {lo : Lo} {st : List Value} {Q : Int → Hp → Prop} {a1 a2 a3 a4 a5 : Value} {cs Cn : String} {T : u_T} {N idx b ci : Nat} (M : MOK k2 5) (hl : Cond.methodLink cs idx k2.1 ∈ wT) (hi : Cond.instanceMethod k2.1 ∈ wT) (hse : Cond.selects Cn k2.1 k2.1 ∈ wT) (hcl : xjCl[ci]? = some (Cn, T, N)) (hkb : kd b = (0, ci)) (hd : decode k.2.1 pc = .ok (.invokevirtual idx, 3)) (hp : pc + 3 = pc2) (he : k.1.cls = cs) (hd2 : d2 + 1 ≤ d) (hm : k2.2.2.1 ≤ 23) (hst : (st.map fun v => v.category).sum ≤ 8) (hr : ∀ x, rv k2 x = some (vi x)) (kk : CJ d2 k2 [.ref b, a1, a2, a3, a4, a5] h (fun x h' => XJ sc d k h' pc2 lo (vi x :: st) Q)) : XJ sc d k h pc lo (a5 :: a4 :: a3 :: a2 :: a1 :: .ref b :: st) Q := by
  subst hp
  have e : (fun x h' => XJ sc d k h' (pc + 3) lo ((rv k2 x).toList ++ st) Q) = (fun x h' => XJ sc d k h' (pc + 3) lo (vi x :: st) Q) := by
    funext x h'
    rw [hr x]
    rfl
  refine xg_callV (as := [a1, a2, a3, a4, a5]) M hl hi hse hcl hkb hd he rfl hd2 hm hst ?_
  rw [e]
  exact kk
theorem xj_S5J {sc : Option (Nat × (Int → Int))} {d d2 : Nat} {k k2 : MI} {h : Hp} {pc pc2 : Nat} {lo : Lo} {st : List Value} {Q : Int → Hp → Prop} {a1 a2 a3 a4 a5 : Value} {cs : String} {idx : Nat} (M : MOK k2 5) (hl : Cond.methodLink cs idx k2.1 ∈ wT) (hs : Cond.static k2.1 ∈ wT) (hd : decode k.2.1 pc = .ok (.invokestatic idx, 3)) (hp : pc + 3 = pc2) (he : k.1.cls = cs) (hd2 : d2 + 1 ≤ d) (hm : k2.2.2.1 ≤ 23) (hst : (st.map fun v => v.category).sum ≤ 8) (hr : ∀ x, rv k2 x = some (vl x)) (kk : CJ d2 k2 [a1, a2, a3, a4, a5] h (fun x h' => XJ sc d k h' pc2 lo (vl x :: st) Q)) : XJ sc d k h pc lo (a5 :: a4 :: a3 :: a2 :: a1 :: st) Q := by
  subst hp
  have e : (fun x h' => XJ sc d k h' (pc + 3) lo ((rv k2 x).toList ++ st) Q) = (fun x h' => XJ sc d k h' (pc + 3) lo (vl x :: st) Q) := by
    funext x h'
    rw [hr x]
    rfl
  refine xg_callS (as := [a1, a2, a3, a4, a5]) M hl hs hd he rfl hd2 hm hst ?_
  rw [e]
  exact kk
theorem xj_N5J {sc : Option (Nat × (Int → Int))} {d d2 : Nat} {k k2 : MI} {h : Hp} {pc pc2 : Nat} {lo : Lo} {st : List Value} {Q : Int → Hp → Prop} {a1 a2 a3 a4 a5 : Value} {cs host : String} {idx : Nat} (M : MOK k2 5) (hl : (cs, idx, k2.1, host) ∈ nestL) (hs : Cond.static k2.1 ∈ wT) (hd : decode k.2.1 pc = .ok (.invokestatic idx, 3)) (hp : pc + 3 = pc2) (he : k.1.cls = cs) (hd2 : d2 + 1 ≤ d) (hm : k2.2.2.1 ≤ 23) (hst : (st.map fun v => v.category).sum ≤ 8) (hr : ∀ x, rv k2 x = some (vl x)) (kk : CJ d2 k2 [a1, a2, a3, a4, a5] h (fun x h' => XJ sc d k h' pc2 lo (vl x :: st) Q)) : XJ sc d k h pc lo (a5 :: a4 :: a3 :: a2 :: a1 :: st) Q := by
  subst hp
  have e : (fun x h' => XJ sc d k h' (pc + 3) lo ((rv k2 x).toList ++ st) Q) = (fun x h' => XJ sc d k h' (pc + 3) lo (vl x :: st) Q) := by
    funext x h'
    rw [hr x]
    rfl
  refine xg_callN (as := [a1, a2, a3, a4, a5]) M hl hs hd he rfl hd2 hm hst ?_
  rw [e]
  exact kk
theorem xj_V5J {sc : Option (Nat × (Int → Int))} {d d2 : Nat} {k k2 : MI} {h : Hp} {pc pc2 : Nat} {lo : Lo} {st : List Value} {Q : Int → Hp → Prop} {a1 a2 a3 a4 a5 : Value} {cs Cn : String} {T : u_T} {N idx b ci : Nat} (M : MOK k2 5) (hl : Cond.methodLink cs idx k2.1 ∈ wT) (hi : Cond.instanceMethod k2.1 ∈ wT) (hse : Cond.selects Cn k2.1 k2.1 ∈ wT) (hcl : xjCl[ci]? = some (Cn, T, N)) (hkb : kd b = (0, ci)) (hd : decode k.2.1 pc = .ok (.invokevirtual idx, 3)) (hp : pc + 3 = pc2) (he : k.1.cls = cs) (hd2 : d2 + 1 ≤ d) (hm : k2.2.2.1 ≤ 23) (hst : (st.map fun v => v.category).sum ≤ 8) (hr : ∀ x, rv k2 x = some (vl x)) (kk : CJ d2 k2 [.ref b, a1, a2, a3, a4, a5] h (fun x h' => XJ sc d k h' pc2 lo (vl x :: st) Q)) : XJ sc d k h pc lo (a5 :: a4 :: a3 :: a2 :: a1 :: .ref b :: st) Q := by
  subst hp
  have e : (fun x h' => XJ sc d k h' (pc + 3) lo ((rv k2 x).toList ++ st) Q) = (fun x h' => XJ sc d k h' (pc + 3) lo (vl x :: st) Q) := by
    funext x h'
    rw [hr x]
    rfl
  refine xg_callV (as := [a1, a2, a3, a4, a5]) M hl hi hse hcl hkb hd he rfl hd2 hm hst ?_
  rw [e]
  exact kk
theorem xj_S5V {sc : Option (Nat × (Int → Int))} {d d2 : Nat} {k k2 : MI} {h : Hp} {pc pc2 : Nat} {lo : Lo} {st : List Value} {Q : Int → Hp → Prop} {a1 a2 a3 a4 a5 : Value} {cs : String} {idx : Nat} (M : MOK k2 5) (hl : Cond.methodLink cs idx k2.1 ∈ wT) (hs : Cond.static k2.1 ∈ wT) (hd : decode k.2.1 pc = .ok (.invokestatic idx, 3)) (hp : pc + 3 = pc2) (he : k.1.cls = cs) (hd2 : d2 + 1 ≤ d) (hm : k2.2.2.1 ≤ 23) (hst : (st.map fun v => v.category).sum ≤ 8) (hr : ∀ x, rv k2 x = none) (kk : CJ d2 k2 [a1, a2, a3, a4, a5] h (fun x h' => XJ sc d k h' pc2 lo (st) Q)) : XJ sc d k h pc lo (a5 :: a4 :: a3 :: a2 :: a1 :: st) Q := by
  subst hp
  have e : (fun x h' => XJ sc d k h' (pc + 3) lo ((rv k2 x).toList ++ st) Q) = (fun x h' => XJ sc d k h' (pc + 3) lo (st) Q) := by
    funext x h'
    rw [hr x]
    rfl
  refine xg_callS (as := [a1, a2, a3, a4, a5]) M hl hs hd he rfl hd2 hm hst ?_
  rw [e]
  exact kk
theorem xj_N5V {sc : Option (Nat × (Int → Int))} {d d2 : Nat} {k k2 : MI} {h : Hp} {pc pc2 : Nat} {lo : Lo} {st : List Value} {Q : Int → Hp → Prop} {a1 a2 a3 a4 a5 : Value} {cs host : String} {idx : Nat} (M : MOK k2 5) (hl : (cs, idx, k2.1, host) ∈ nestL) (hs : Cond.static k2.1 ∈ wT) (hd : decode k.2.1 pc = .ok (.invokestatic idx, 3)) (hp : pc + 3 = pc2) (he : k.1.cls = cs) (hd2 : d2 + 1 ≤ d) (hm : k2.2.2.1 ≤ 23) (hst : (st.map fun v => v.category).sum ≤ 8) (hr : ∀ x, rv k2 x = none) (kk : CJ d2 k2 [a1, a2, a3, a4, a5] h (fun x h' => XJ sc d k h' pc2 lo (st) Q)) : XJ sc d k h pc lo (a5 :: a4 :: a3 :: a2 :: a1 :: st) Q := by
  subst hp
  have e : (fun x h' => XJ sc d k h' (pc + 3) lo ((rv k2 x).toList ++ st) Q) = (fun x h' => XJ sc d k h' (pc + 3) lo (st) Q) := by
    funext x h'
    rw [hr x]
    rfl
  refine xg_callN (as := [a1, a2, a3, a4, a5]) M hl hs hd he rfl hd2 hm hst ?_
  rw [e]
  exact kk
theorem xj_V5V {sc : Option (Nat × (Int → Int))} {d d2 : Nat} {k k2 : MI} {h : Hp} {pc pc2 : Nat} {lo : Lo} {st : List Value} {Q : Int → Hp → Prop} {a1 a2 a3 a4 a5 : Value} {cs Cn : String} {T : u_T} {N idx b ci : Nat} (M : MOK k2 5) (hl : Cond.methodLink cs idx k2.1 ∈ wT) (hi : Cond.instanceMethod k2.1 ∈ wT) (hse : Cond.selects Cn k2.1 k2.1 ∈ wT) (hcl : xjCl[ci]? = some (Cn, T, N)) (hkb : kd b = (0, ci)) (hd : decode k.2.1 pc = .ok (.invokevirtual idx, 3)) (hp : pc + 3 = pc2) (he : k.1.cls = cs) (hd2 : d2 + 1 ≤ d) (hm : k2.2.2.1 ≤ 23) (hst : (st.map fun v => v.category).sum ≤ 8) (hr : ∀ x, rv k2 x = none) (kk : CJ d2 k2 [.ref b, a1, a2, a3, a4, a5] h (fun x h' => XJ sc d k h' pc2 lo (st) Q)) : XJ sc d k h pc lo (a5 :: a4 :: a3 :: a2 :: a1 :: .ref b :: st) Q := by
  subst hp
  have e : (fun x h' => XJ sc d k h' (pc + 3) lo ((rv k2 x).toList ++ st) Q) = (fun x h' => XJ sc d k h' (pc + 3) lo (st) Q) := by
    funext x h'
    rw [hr x]
    rfl
  refine xg_callV (as := [a1, a2, a3, a4, a5]) M hl hi hse hcl hkb hd he rfl hd2 hm hst ?_
  rw [e]
  exact kk
theorem xj_S6I {sc : Option (Nat × (Int → Int))} {d d2 : Nat} {k k2 : MI} {h : Hp} {pc pc2 : Nat} {lo : Lo} {st : List Value} {Q : Int → Hp → Prop} {a1 a2 a3 a4 a5 a6 : Value} {cs : String} {idx : Nat} (M : MOK k2 6) (hl : Cond.methodLink cs idx k2.1 ∈ wT) (hs : Cond.static k2.1 ∈ wT) (hd : decode k.2.1 pc = .ok (.invokestatic idx, 3)) (hp : pc + 3 = pc2) (he : k.1.cls = cs) (hd2 : d2 + 1 ≤ d) (hm : k2.2.2.1 ≤ 23) (hst : (st.map fun v => v.category).sum ≤ 8) (hr : ∀ x, rv k2 x = some (vi x)) (kk : CJ d2 k2 [a1, a2, a3, a4, a5, a6] h (fun x h' => XJ sc d k h' pc2 lo (vi x :: st) Q)) : XJ sc d k h pc lo (a6 :: a5 :: a4 :: a3 :: a2 :: a1 :: st) Q := by
  subst hp
  have e : (fun x h' => XJ sc d k h' (pc + 3) lo ((rv k2 x).toList ++ st) Q) = (fun x h' => XJ sc d k h' (pc + 3) lo (vi x :: st) Q) := by
    funext x h'
    rw [hr x]
    rfl
  refine xg_callS (as := [a1, a2, a3, a4, a5, a6]) M hl hs hd he rfl hd2 hm hst ?_
  rw [e]
  exact kk
theorem xj_N6I {sc : Option (Nat × (Int → Int))} {d d2 : Nat} {k k2 : MI} {h : Hp} {pc pc2 : Nat} {lo : Lo} {st : List Value} {Q : Int → Hp → Prop} {a1 a2 a3 a4 a5 a6 : Value} {cs host : String} {idx : Nat} (M : MOK k2 6) (hl : (cs, idx, k2.1, host) ∈ nestL) (hs : Cond.static k2.1 ∈ wT) (hd : decode k.2.1 pc = .ok (.invokestatic idx, 3)) (hp : pc + 3 = pc2) (he : k.1.cls = cs) (hd2 : d2 + 1 ≤ d) (hm : k2.2.2.1 ≤ 23) (hst : (st.map fun v => v.category).sum ≤ 8) (hr : ∀ x, rv k2 x = some (vi x)) (kk : CJ d2 k2 [a1, a2, a3, a4, a5, a6] h (fun x h' => XJ sc d k h' pc2 lo (vi x :: st) Q)) : XJ sc d k h pc lo (a6 :: a5 :: a4 :: a3 :: a2 :: a1 :: st) Q := by
  subst hp
  have e : (fun x h' => XJ sc d k h' (pc + 3) lo ((rv k2 x).toList ++ st) Q) = (fun x h' => XJ sc d k h' (pc + 3) lo (vi x :: st) Q) := by
    funext x h'
    rw [hr x]
    rfl
  refine xg_callN (as := [a1, a2, a3, a4, a5, a6]) M hl hs hd he rfl hd2 hm hst ?_
  rw [e]
  exact kk
theorem xj_V6I {sc : Option (Nat × (Int → Int))} {d d2 : Nat} {k k2 : MI} {h : Hp} {pc pc2 : Nat} {lo : Lo} {st : List Value} {Q : Int → Hp → Prop} {a1 a2 a3 a4 a5 a6 : Value} {cs Cn : String} {T : u_T} {N idx b ci : Nat} (M : MOK k2 6) (hl : Cond.methodLink cs idx k2.1 ∈ wT) (hi : Cond.instanceMethod k2.1 ∈ wT) (hse : Cond.selects Cn k2.1 k2.1 ∈ wT) (hcl : xjCl[ci]? = some (Cn, T, N)) (hkb : kd b = (0, ci)) (hd : decode k.2.1 pc = .ok (.invokevirtual idx, 3)) (hp : pc + 3 = pc2) (he : k.1.cls = cs) (hd2 : d2 + 1 ≤ d) (hm : k2.2.2.1 ≤ 23) (hst : (st.map fun v => v.category).sum ≤ 8) (hr : ∀ x, rv k2 x = some (vi x)) (kk : CJ d2 k2 [.ref b, a1, a2, a3, a4, a5, a6] h (fun x h' => XJ sc d k h' pc2 lo (vi x :: st) Q)) : XJ sc d k h pc lo (a6 :: a5 :: a4 :: a3 :: a2 :: a1 :: .ref b :: st) Q := by
  subst hp
  have e : (fun x h' => XJ sc d k h' (pc + 3) lo ((rv k2 x).toList ++ st) Q) = (fun x h' => XJ sc d k h' (pc + 3) lo (vi x :: st) Q) := by
    funext x h'
    rw [hr x]
    rfl
  refine xg_callV (as := [a1, a2, a3, a4, a5, a6]) M hl hi hse hcl hkb hd he rfl hd2 hm hst ?_
  rw [e]
  exact kk
theorem xj_S6J {sc : Option (Nat × (Int → Int))} {d d2 : Nat} {k k2 : MI} {h : Hp} {pc pc2 : Nat} {lo : Lo} {st : List Value} {Q : Int → Hp → Prop} {a1 a2 a3 a4 a5 a6 : Value} {cs : String} {idx : Nat} (M : MOK k2 6) (hl : Cond.methodLink cs idx k2.1 ∈ wT) (hs : Cond.static k2.1 ∈ wT) (hd : decode k.2.1 pc = .ok (.invokestatic idx, 3)) (hp : pc + 3 = pc2) (he : k.1.cls = cs) (hd2 : d2 + 1 ≤ d) (hm : k2.2.2.1 ≤ 23) (hst : (st.map fun v => v.category).sum ≤ 8) (hr : ∀ x, rv k2 x = some (vl x)) (kk : CJ d2 k2 [a1, a2, a3, a4, a5, a6] h (fun x h' => XJ sc d k h' pc2 lo (vl x :: st) Q)) : XJ sc d k h pc lo (a6 :: a5 :: a4 :: a3 :: a2 :: a1 :: st) Q := by
  subst hp
  have e : (fun x h' => XJ sc d k h' (pc + 3) lo ((rv k2 x).toList ++ st) Q) = (fun x h' => XJ sc d k h' (pc + 3) lo (vl x :: st) Q) := by
    funext x h'
    rw [hr x]
    rfl
  refine xg_callS (as := [a1, a2, a3, a4, a5, a6]) M hl hs hd he rfl hd2 hm hst ?_
  rw [e]
  exact kk
theorem xj_N6J {sc : Option (Nat × (Int → Int))} {d d2 : Nat} {k k2 : MI} {h : Hp} {pc pc2 : Nat} {lo : Lo} {st : List Value} {Q : Int → Hp → Prop} {a1 a2 a3 a4 a5 a6 : Value} {cs host : String} {idx : Nat} (M : MOK k2 6) (hl : (cs, idx, k2.1, host) ∈ nestL) (hs : Cond.static k2.1 ∈ wT) (hd : decode k.2.1 pc = .ok (.invokestatic idx, 3)) (hp : pc + 3 = pc2) (he : k.1.cls = cs) (hd2 : d2 + 1 ≤ d) (hm : k2.2.2.1 ≤ 23) (hst : (st.map fun v => v.category).sum ≤ 8) (hr : ∀ x, rv k2 x = some (vl x)) (kk : CJ d2 k2 [a1, a2, a3, a4, a5, a6] h (fun x h' => XJ sc d k h' pc2 lo (vl x :: st) Q)) : XJ sc d k h pc lo (a6 :: a5 :: a4 :: a3 :: a2 :: a1 :: st) Q := by
  subst hp
  have e : (fun x h' => XJ sc d k h' (pc + 3) lo ((rv k2 x).toList ++ st) Q) = (fun x h' => XJ sc d k h' (pc + 3) lo (vl x :: st) Q) := by
    funext x h'
    rw [hr x]
    rfl
  refine xg_callN (as := [a1, a2, a3, a4, a5, a6]) M hl hs hd he rfl hd2 hm hst ?_
  rw [e]
  exact kk
theorem xj_V6J {sc : Option (Nat × (Int → Int))} {d d2 : Nat} {k k2 : MI} {h : Hp} {pc pc2 : Nat} {lo : Lo} {st : List Value} {Q : Int → Hp → Prop} {a1 a2 a3 a4 a5 a6 : Value} {cs Cn : String} {T : u_T} {N idx b ci : Nat} (M : MOK k2 6) (hl : Cond.methodLink cs idx k2.1 ∈ wT) (hi : Cond.instanceMethod k2.1 ∈ wT) (hse : Cond.selects Cn k2.1 k2.1 ∈ wT) (hcl : xjCl[ci]? = some (Cn, T, N)) (hkb : kd b = (0, ci)) (hd : decode k.2.1 pc = .ok (.invokevirtual idx, 3)) (hp : pc + 3 = pc2) (he : k.1.cls = cs) (hd2 : d2 + 1 ≤ d) (hm : k2.2.2.1 ≤ 23) (hst : (st.map fun v => v.category).sum ≤ 8) (hr : ∀ x, rv k2 x = some (vl x)) (kk : CJ d2 k2 [.ref b, a1, a2, a3, a4, a5, a6] h (fun x h' => XJ sc d k h' pc2 lo (vl x :: st) Q)) : XJ sc d k h pc lo (a6 :: a5 :: a4 :: a3 :: a2 :: a1 :: .ref b :: st) Q := by
  subst hp
  have e : (fun x h' => XJ sc d k h' (pc + 3) lo ((rv k2 x).toList ++ st) Q) = (fun x h' => XJ sc d k h' (pc + 3) lo (vl x :: st) Q) := by
    funext x h'
    rw [hr x]
    rfl
  refine xg_callV (as := [a1, a2, a3, a4, a5, a6]) M hl hi hse hcl hkb hd he rfl hd2 hm hst ?_
  rw [e]
  exact kk
theorem xj_S6V {sc : Option (Nat × (Int → Int))} {d d2 : Nat} {k k2 : MI} {h : Hp} {pc pc2 : Nat} {lo : Lo} {st : List Value} {Q : Int → Hp → Prop} {a1 a2 a3 a4 a5 a6 : Value} {cs : String} {idx : Nat} (M : MOK k2 6) (hl : Cond.methodLink cs idx k2.1 ∈ wT) (hs : Cond.static k2.1 ∈ wT) (hd : decode k.2.1 pc = .ok (.invokestatic idx, 3)) (hp : pc + 3 = pc2) (he : k.1.cls = cs) (hd2 : d2 + 1 ≤ d) (hm : k2.2.2.1 ≤ 23) (hst : (st.map fun v => v.category).sum ≤ 8) (hr : ∀ x, rv k2 x = none) (kk : CJ d2 k2 [a1, a2, a3, a4, a5, a6] h (fun x h' => XJ sc d k h' pc2 lo (st) Q)) : XJ sc d k h pc lo (a6 :: a5 :: a4 :: a3 :: a2 :: a1 :: st) Q := by
  subst hp
  have e : (fun x h' => XJ sc d k h' (pc + 3) lo ((rv k2 x).toList ++ st) Q) = (fun x h' => XJ sc d k h' (pc + 3) lo (st) Q) := by
    funext x h'
    rw [hr x]
    rfl
  refine xg_callS (as := [a1, a2, a3, a4, a5, a6]) M hl hs hd he rfl hd2 hm hst ?_
  rw [e]
  exact kk
theorem xj_N6V {sc : Option (Nat × (Int → Int))} {d d2 : Nat} {k k2 : MI} {h : Hp} {pc pc2 : Nat} {lo : Lo} {st : List Value} {Q : Int → Hp → Prop} {a1 a2 a3 a4 a5 a6 : Value} {cs host : String} {idx : Nat} (M : MOK k2 6) (hl : (cs, idx, k2.1, host) ∈ nestL) (hs : Cond.static k2.1 ∈ wT) (hd : decode k.2.1 pc = .ok (.invokestatic idx, 3)) (hp : pc + 3 = pc2) (he : k.1.cls = cs) (hd2 : d2 + 1 ≤ d) (hm : k2.2.2.1 ≤ 23) (hst : (st.map fun v => v.category).sum ≤ 8) (hr : ∀ x, rv k2 x = none) (kk : CJ d2 k2 [a1, a2, a3, a4, a5, a6] h (fun x h' => XJ sc d k h' pc2 lo (st) Q)) : XJ sc d k h pc lo (a6 :: a5 :: a4 :: a3 :: a2 :: a1 :: st) Q := by
  subst hp
  have e : (fun x h' => XJ sc d k h' (pc + 3) lo ((rv k2 x).toList ++ st) Q) = (fun x h' => XJ sc d k h' (pc + 3) lo (st) Q) := by
    funext x h'
    rw [hr x]
    rfl
  refine xg_callN (as := [a1, a2, a3, a4, a5, a6]) M hl hs hd he rfl hd2 hm hst ?_
  rw [e]
  exact kk
theorem xj_V6V {sc : Option (Nat × (Int → Int))} {d d2 : Nat} {k k2 : MI} {h : Hp} {pc pc2 : Nat} {lo : Lo} {st : List Value} {Q : Int → Hp → Prop} {a1 a2 a3 a4 a5 a6 : Value} {cs Cn : String} {T : u_T} {N idx b ci : Nat} (M : MOK k2 6) (hl : Cond.methodLink cs idx k2.1 ∈ wT) (hi : Cond.instanceMethod k2.1 ∈ wT) (hse : Cond.selects Cn k2.1 k2.1 ∈ wT) (hcl : xjCl[ci]? = some (Cn, T, N)) (hkb : kd b = (0, ci)) (hd : decode k.2.1 pc = .ok (.invokevirtual idx, 3)) (hp : pc + 3 = pc2) (he : k.1.cls = cs) (hd2 : d2 + 1 ≤ d) (hm : k2.2.2.1 ≤ 23) (hst : (st.map fun v => v.category).sum ≤ 8) (hr : ∀ x, rv k2 x = none) (kk : CJ d2 k2 [.ref b, a1, a2, a3, a4, a5, a6] h (fun x h' => XJ sc d k h' pc2 lo (st) Q)) : XJ sc d k h pc lo (a6 :: a5 :: a4 :: a3 :: a2 :: a1 :: .ref b :: st) Q := by
  subst hp
  have e : (fun x h' => XJ sc d k h' (pc + 3) lo ((rv k2 x).toList ++ st) Q) = (fun x h' => XJ sc d k h' (pc + 3) lo (st) Q) := by
    funext x h'
    rw [hr x]
    rfl
  refine xg_callV (as := [a1, a2, a3, a4, a5, a6]) M hl hi hse hcl hkb hd he rfl hd2 hm hst ?_
  rw [e]
  exact kk
theorem xj_S7I {sc : Option (Nat × (Int → Int))} {d d2 : Nat} {k k2 : MI} {h : Hp} {pc pc2 : Nat} {lo : Lo} {st : List Value} {Q : Int → Hp → Prop} {a1 a2 a3 a4 a5 a6 a7 : Value} {cs : String} {idx : Nat} (M : MOK k2 7) (hl : Cond.methodLink cs idx k2.1 ∈ wT) (hs : Cond.static k2.1 ∈ wT) (hd : decode k.2.1 pc = .ok (.invokestatic idx, 3)) (hp : pc + 3 = pc2) (he : k.1.cls = cs) (hd2 : d2 + 1 ≤ d) (hm : k2.2.2.1 ≤ 23) (hst : (st.map fun v => v.category).sum ≤ 8) (hr : ∀ x, rv k2 x = some (vi x)) (kk : CJ d2 k2 [a1, a2, a3, a4, a5, a6, a7] h (fun x h' => XJ sc d k h' pc2 lo (vi x :: st) Q)) : XJ sc d k h pc lo (a7 :: a6 :: a5 :: a4 :: a3 :: a2 :: a1 :: st) Q := by
  subst hp
  have e : (fun x h' => XJ sc d k h' (pc + 3) lo ((rv k2 x).toList ++ st) Q) = (fun x h' => XJ sc d k h' (pc + 3) lo (vi x :: st) Q) := by
    funext x h'
    rw [hr x]
    rfl
  refine xg_callS (as := [a1, a2, a3, a4, a5, a6, a7]) M hl hs hd he rfl hd2 hm hst ?_
  rw [e]
  exact kk
theorem xj_N7I {sc : Option (Nat × (Int → Int))} {d d2 : Nat} {k k2 : MI} {h : Hp} {pc pc2 : Nat} {lo : Lo} {st : List Value} {Q : Int → Hp → Prop} {a1 a2 a3 a4 a5 a6 a7 : Value} {cs host : String} {idx : Nat} (M : MOK k2 7) (hl : (cs, idx, k2.1, host) ∈ nestL) (hs : Cond.static k2.1 ∈ wT) (hd : decode k.2.1 pc = .ok (.invokestatic idx, 3)) (hp : pc + 3 = pc2) (he : k.1.cls = cs) (hd2 : d2 + 1 ≤ d) (hm : k2.2.2.1 ≤ 23) (hst : (st.map fun v => v.category).sum ≤ 8) (hr : ∀ x, rv k2 x = some (vi x)) (kk : CJ d2 k2 [a1, a2, a3, a4, a5, a6, a7] h (fun x h' => XJ sc d k h' pc2 lo (vi x :: st) Q)) : XJ sc d k h pc lo (a7 :: a6 :: a5 :: a4 :: a3 :: a2 :: a1 :: st) Q := by
  subst hp
  have e : (fun x h' => XJ sc d k h' (pc + 3) lo ((rv k2 x).toList ++ st) Q) = (fun x h' => XJ sc d k h' (pc + 3) lo (vi x :: st) Q) := by
    funext x h'
    rw [hr x]
    rfl
  refine xg_callN (as := [a1, a2, a3, a4, a5, a6, a7]) M hl hs hd he rfl hd2 hm hst ?_
  rw [e]
  exact kk
theorem xj_V7I {sc : Option (Nat × (Int → Int))} {d d2 : Nat} {k k2 : MI} {h : Hp} {pc pc2 : Nat} {lo : Lo} {st : List Value} {Q : Int → Hp → Prop} {a1 a2 a3 a4 a5 a6 a7 : Value} {cs Cn : String} {T : u_T} {N idx b ci : Nat} (M : MOK k2 7) (hl : Cond.methodLink cs idx k2.1 ∈ wT) (hi : Cond.instanceMethod k2.1 ∈ wT) (hse : Cond.selects Cn k2.1 k2.1 ∈ wT) (hcl : xjCl[ci]? = some (Cn, T, N)) (hkb : kd b = (0, ci)) (hd : decode k.2.1 pc = .ok (.invokevirtual idx, 3)) (hp : pc + 3 = pc2) (he : k.1.cls = cs) (hd2 : d2 + 1 ≤ d) (hm : k2.2.2.1 ≤ 23) (hst : (st.map fun v => v.category).sum ≤ 8) (hr : ∀ x, rv k2 x = some (vi x)) (kk : CJ d2 k2 [.ref b, a1, a2, a3, a4, a5, a6, a7] h (fun x h' => XJ sc d k h' pc2 lo (vi x :: st) Q)) : XJ sc d k h pc lo (a7 :: a6 :: a5 :: a4 :: a3 :: a2 :: a1 :: .ref b :: st) Q := by
  subst hp
  have e : (fun x h' => XJ sc d k h' (pc + 3) lo ((rv k2 x).toList ++ st) Q) = (fun x h' => XJ sc d k h' (pc + 3) lo (vi x :: st) Q) := by
    funext x h'
    rw [hr x]
    rfl
  refine xg_callV (as := [a1, a2, a3, a4, a5, a6, a7]) M hl hi hse hcl hkb hd he rfl hd2 hm hst ?_
  rw [e]
  exact kk
theorem xj_S7J {sc : Option (Nat × (Int → Int))} {d d2 : Nat} {k k2 : MI} {h : Hp} {pc pc2 : Nat} {lo : Lo} {st : List Value} {Q : Int → Hp → Prop} {a1 a2 a3 a4 a5 a6 a7 : Value} {cs : String} {idx : Nat} (M : MOK k2 7) (hl : Cond.methodLink cs idx k2.1 ∈ wT) (hs : Cond.static k2.1 ∈ wT) (hd : decode k.2.1 pc = .ok (.invokestatic idx, 3)) (hp : pc + 3 = pc2) (he : k.1.cls = cs) (hd2 : d2 + 1 ≤ d) (hm : k2.2.2.1 ≤ 23) (hst : (st.map fun v => v.category).sum ≤ 8) (hr : ∀ x, rv k2 x = some (vl x)) (kk : CJ d2 k2 [a1, a2, a3, a4, a5, a6, a7] h (fun x h' => XJ sc d k h' pc2 lo (vl x :: st) Q)) : XJ sc d k h pc lo (a7 :: a6 :: a5 :: a4 :: a3 :: a2 :: a1 :: st) Q := by
  subst hp
  have e : (fun x h' => XJ sc d k h' (pc + 3) lo ((rv k2 x).toList ++ st) Q) = (fun x h' => XJ sc d k h' (pc + 3) lo (vl x :: st) Q) := by
    funext x h'
    rw [hr x]
    rfl
  refine xg_callS (as := [a1, a2, a3, a4, a5, a6, a7]) M hl hs hd he rfl hd2 hm hst ?_
  rw [e]
  exact kk
theorem xj_N7J {sc : Option (Nat × (Int → Int))} {d d2 : Nat} {k k2 : MI} {h : Hp} {pc pc2 : Nat} {lo : Lo} {st : List Value} {Q : Int → Hp → Prop} {a1 a2 a3 a4 a5 a6 a7 : Value} {cs host : String} {idx : Nat} (M : MOK k2 7) (hl : (cs, idx, k2.1, host) ∈ nestL) (hs : Cond.static k2.1 ∈ wT) (hd : decode k.2.1 pc = .ok (.invokestatic idx, 3)) (hp : pc + 3 = pc2) (he : k.1.cls = cs) (hd2 : d2 + 1 ≤ d) (hm : k2.2.2.1 ≤ 23) (hst : (st.map fun v => v.category).sum ≤ 8) (hr : ∀ x, rv k2 x = some (vl x)) (kk : CJ d2 k2 [a1, a2, a3, a4, a5, a6, a7] h (fun x h' => XJ sc d k h' pc2 lo (vl x :: st) Q)) : XJ sc d k h pc lo (a7 :: a6 :: a5 :: a4 :: a3 :: a2 :: a1 :: st) Q := by
  subst hp
  have e : (fun x h' => XJ sc d k h' (pc + 3) lo ((rv k2 x).toList ++ st) Q) = (fun x h' => XJ sc d k h' (pc + 3) lo (vl x :: st) Q) := by
    funext x h'
    rw [hr x]
    rfl
  refine xg_callN (as := [a1, a2, a3, a4, a5, a6, a7]) M hl hs hd he rfl hd2 hm hst ?_
  rw [e]
  exact kk
theorem xj_V7J {sc : Option (Nat × (Int → Int))} {d d2 : Nat} {k k2 : MI} {h : Hp} {pc pc2 : Nat} {lo : Lo} {st : List Value} {Q : Int → Hp → Prop} {a1 a2 a3 a4 a5 a6 a7 : Value} {cs Cn : String} {T : u_T} {N idx b ci : Nat} (M : MOK k2 7) (hl : Cond.methodLink cs idx k2.1 ∈ wT) (hi : Cond.instanceMethod k2.1 ∈ wT) (hse : Cond.selects Cn k2.1 k2.1 ∈ wT) (hcl : xjCl[ci]? = some (Cn, T, N)) (hkb : kd b = (0, ci)) (hd : decode k.2.1 pc = .ok (.invokevirtual idx, 3)) (hp : pc + 3 = pc2) (he : k.1.cls = cs) (hd2 : d2 + 1 ≤ d) (hm : k2.2.2.1 ≤ 23) (hst : (st.map fun v => v.category).sum ≤ 8) (hr : ∀ x, rv k2 x = some (vl x)) (kk : CJ d2 k2 [.ref b, a1, a2, a3, a4, a5, a6, a7] h (fun x h' => XJ sc d k h' pc2 lo (vl x :: st) Q)) : XJ sc d k h pc lo (a7 :: a6 :: a5 :: a4 :: a3 :: a2 :: a1 :: .ref b :: st) Q := by
  subst hp
  have e : (fun x h' => XJ sc d k h' (pc + 3) lo ((rv k2 x).toList ++ st) Q) = (fun x h' => XJ sc d k h' (pc + 3) lo (vl x :: st) Q) := by
    funext x h'
    rw [hr x]
    rfl
  refine xg_callV (as := [a1, a2, a3, a4, a5, a6, a7]) M hl hi hse hcl hkb hd he rfl hd2 hm hst ?_
  rw [e]
  exact kk
theorem xj_S7V {sc : Option (Nat × (Int → Int))} {d d2 : Nat} {k k2 : MI} {h : Hp} {pc pc2 : Nat} {lo : Lo} {st : List Value} {Q : Int → Hp → Prop} {a1 a2 a3 a4 a5 a6 a7 : Value} {cs : String} {idx : Nat} (M : MOK k2 7) (hl : Cond.methodLink cs idx k2.1 ∈ wT) (hs : Cond.static k2.1 ∈ wT) (hd : decode k.2.1 pc = .ok (.invokestatic idx, 3)) (hp : pc + 3 = pc2) (he : k.1.cls = cs) (hd2 : d2 + 1 ≤ d) (hm : k2.2.2.1 ≤ 23) (hst : (st.map fun v => v.category).sum ≤ 8) (hr : ∀ x, rv k2 x = none) (kk : CJ d2 k2 [a1, a2, a3, a4, a5, a6, a7] h (fun x h' => XJ sc d k h' pc2 lo (st) Q)) : XJ sc d k h pc lo (a7 :: a6 :: a5 :: a4 :: a3 :: a2 :: a1 :: st) Q := by
  subst hp
  have e : (fun x h' => XJ sc d k h' (pc + 3) lo ((rv k2 x).toList ++ st) Q) = (fun x h' => XJ sc d k h' (pc + 3) lo (st) Q) := by
    funext x h'
    rw [hr x]
    rfl
  refine xg_callS (as := [a1, a2, a3, a4, a5, a6, a7]) M hl hs hd he rfl hd2 hm hst ?_
  rw [e]
  exact kk
theorem xj_N7V {sc : Option (Nat × (Int → Int))} {d d2 : Nat} {k k2 : MI} {h : Hp} {pc pc2 : Nat} {lo : Lo} {st : List Value} {Q : Int → Hp → Prop} {a1 a2 a3 a4 a5 a6 a7 : Value} {cs host : String} {idx : Nat} (M : MOK k2 7) (hl : (cs, idx, k2.1, host) ∈ nestL) (hs : Cond.static k2.1 ∈ wT) (hd : decode k.2.1 pc = .ok (.invokestatic idx, 3)) (hp : pc + 3 = pc2) (he : k.1.cls = cs) (hd2 : d2 + 1 ≤ d) (hm : k2.2.2.1 ≤ 23) (hst : (st.map fun v => v.category).sum ≤ 8) (hr : ∀ x, rv k2 x = none) (kk : CJ d2 k2 [a1, a2, a3, a4, a5, a6, a7] h (fun x h' => XJ sc d k h' pc2 lo (st) Q)) : XJ sc d k h pc lo (a7 :: a6 :: a5 :: a4 :: a3 :: a2 :: a1 :: st) Q := by
  subst hp
  have e : (fun x h' => XJ sc d k h' (pc + 3) lo ((rv k2 x).toList ++ st) Q) = (fun x h' => XJ sc d k h' (pc + 3) lo (st) Q) := by
    funext x h'
    rw [hr x]
    rfl
  refine xg_callN (as := [a1, a2, a3, a4, a5, a6, a7]) M hl hs hd he rfl hd2 hm hst ?_
  rw [e]
  exact kk
theorem xj_V7V {sc : Option (Nat × (Int → Int))} {d d2 : Nat} {k k2 : MI} {h : Hp} {pc pc2 : Nat} {lo : Lo} {st : List Value} {Q : Int → Hp → Prop} {a1 a2 a3 a4 a5 a6 a7 : Value} {cs Cn : String} {T : u_T} {N idx b ci : Nat} (M : MOK k2 7) (hl : Cond.methodLink cs idx k2.1 ∈ wT) (hi : Cond.instanceMethod k2.1 ∈ wT) (hse : Cond.selects Cn k2.1 k2.1 ∈ wT) (hcl : xjCl[ci]? = some (Cn, T, N)) (hkb : kd b = (0, ci)) (hd : decode k.2.1 pc = .ok (.invokevirtual idx, 3)) (hp : pc + 3 = pc2) (he : k.1.cls = cs) (hd2 : d2 + 1 ≤ d) (hm : k2.2.2.1 ≤ 23) (hst : (st.map fun v => v.category).sum ≤ 8) (hr : ∀ x, rv k2 x = none) (kk : CJ d2 k2 [.ref b, a1, a2, a3, a4, a5, a6, a7] h (fun x h' => XJ sc d k h' pc2 lo (st) Q)) : XJ sc d k h pc lo (a7 :: a6 :: a5 :: a4 :: a3 :: a2 :: a1 :: .ref b :: st) Q := by
  subst hp
  have e : (fun x h' => XJ sc d k h' (pc + 3) lo ((rv k2 x).toList ++ st) Q) = (fun x h' => XJ sc d k h' (pc + 3) lo (st) Q) := by
    funext x h'
    rw [hr x]
    rfl
  refine xg_callV (as := [a1, a2, a3, a4, a5, a6, a7]) M hl hi hse hcl hkb hd he rfl hd2 hm hst ?_
  rw [e]
  exact kk
theorem q_eq {Q : Int → Hp → Prop} {x y : Int} {h : Hp} (e : x = y) (hq : Q y h) : Q x h := e ▸ hq
theorem q_eh {Q : Int → Hp → Prop} {x y : Int} {h h2 : Hp} (e : x = y) (eh : h = h2) (hq : Q y h2) : Q x h := e ▸ eh ▸ hq
abbrev kX6_init : MI := (yX6_init, cX6_init, 1, none)
theorem mok_X6_init : MOK kX6_init 0 := ⟨by decide +kernel, co_yX6_init, ini_X6, ⟨by decide +kernel, by decide +kernel⟩, by decide +kernel⟩
abbrev kX4_init : MI := (yX4_init, cX4_init, 1, none)
theorem mok_X4_init : MOK kX4_init 0 := ⟨by decide +kernel, co_yX4_init, ini_X4, ⟨by decide +kernel, by decide +kernel⟩, by decide +kernel⟩
abbrev kX5_init : MI := (yX5_init, cX5_init, 1, none)
theorem mok_X5_init : MOK kX5_init 0 := ⟨by decide +kernel, co_yX5_init, ini_X5, ⟨by decide +kernel, by decide +kernel⟩, by decide +kernel⟩
abbrev kX2_init : MI := (yX2_init, cX2_init, 1, none)
theorem mok_X2_init : MOK kX2_init 0 := ⟨by decide +kernel, co_yX2_init, ini_X2, ⟨by decide +kernel, by decide +kernel⟩, by decide +kernel⟩
abbrev kX3_init : MI := (yX3_init, cX3_init, 1, none)
theorem mok_X3_init : MOK kX3_init 0 := ⟨by decide +kernel, co_yX3_init, ini_X3, ⟨by decide +kernel, by decide +kernel⟩, by decide +kernel⟩
abbrev kX0_init : MI := (yX0_init, cX0_init, 1, none)
theorem mok_X0_init : MOK kX0_init 0 := ⟨by decide +kernel, co_yX0_init, ini_X0, ⟨by decide +kernel, by decide +kernel⟩, by decide +kernel⟩
abbrev kX1_init : MI := (yX1_init, cX1_init, 1, none)
theorem mok_X1_init : MOK kX1_init 0 := ⟨by decide +kernel, co_yX1_init, ini_X1, ⟨by decide +kernel, by decide +kernel⟩, by decide +kernel⟩
abbrev kX6_glove : MI := (yX6_glove, cX6_glove, 3, (some .int))
theorem mok_X6_glove : MOK kX6_glove 2 := ⟨by decide +kernel, co_yX6_glove, ini_X6, ⟨by decide +kernel, by decide +kernel⟩, by decide +kernel⟩
abbrev kX5_hasGlove : MI := (yX5_hasGlove, cX5_hasGlove, 2, (some .boolean))
theorem mok_X5_hasGlove : MOK kX5_hasGlove 1 := ⟨by decide +kernel, co_yX5_hasGlove, ini_X5, ⟨by decide +kernel, by decide +kernel⟩, by decide +kernel⟩
abbrev kX6_at : MI := (yX6_at, cX6_at, 2, (some .int))
theorem mok_X6_at : MOK kX6_at 2 := ⟨by decide +kernel, co_yX6_at, ini_X6, ⟨by decide +kernel, by decide +kernel⟩, by decide +kernel⟩
abbrev kX5_temper : MI := (yX5_temper, cX5_temper, 3, (some .int))
theorem mok_X5_temper : MOK kX5_temper 2 := ⟨by decide +kernel, co_yX5_temper, ini_X5, ⟨by decide +kernel, by decide +kernel⟩, by decide +kernel⟩
abbrev kX6_ageOf : MI := (yX6_ageOf, cX6_ageOf, 1, (some .int))
theorem mok_X6_ageOf : MOK kX6_ageOf 1 := ⟨by decide +kernel, co_yX6_ageOf, ini_X6, ⟨by decide +kernel, by decide +kernel⟩, by decide +kernel⟩
abbrev kX6_temperOf : MI := (yX6_temperOf, cX6_temperOf, 3, (some .int))
theorem mok_X6_temperOf : MOK kX6_temperOf 3 := ⟨by decide +kernel, co_yX6_temperOf, ini_X6, ⟨by decide +kernel, by decide +kernel⟩, by decide +kernel⟩
abbrev kX5_quarrels : MI := (yX5_quarrels, cX5_quarrels, 6, (some .int))
theorem mok_X5_quarrels : MOK kX5_quarrels 1 := ⟨by decide +kernel, co_yX5_quarrels, ini_X5, ⟨by decide +kernel, by decide +kernel⟩, by decide +kernel⟩
abbrev kJ9_abs_0f7a4 : MI := (yJ9_abs_0f7a4, cJ9_abs_0f7a4, 1, (some .int))
abbrev kX5_possibleMarks : MI := (yX5_possibleMarks, cX5_possibleMarks, 4, (some .int))
theorem mok_X5_possibleMarks : MOK kX5_possibleMarks 1 := ⟨by decide +kernel, co_yX5_possibleMarks, ini_X5, ⟨by decide +kernel, by decide +kernel⟩, by decide +kernel⟩
abbrev kX5_agreesWithSeen : MI := (yX5_agreesWithSeen, cX5_agreesWithSeen, 6, (some .boolean))
theorem mok_X5_agreesWithSeen : MOK kX5_agreesWithSeen 2 := ⟨by decide +kernel, co_yX5_agreesWithSeen, ini_X5, ⟨by decide +kernel, by decide +kernel⟩, by decide +kernel⟩
abbrev kX5_bestFeel : MI := (yX5_bestFeel, cX5_bestFeel, 7, (some .int))
theorem mok_X5_bestFeel : MOK kX5_bestFeel 1 := ⟨by decide +kernel, co_yX5_bestFeel, ini_X5, ⟨by decide +kernel, by decide +kernel⟩, by decide +kernel⟩
abbrev kX5_mostLeft : MI := (yX5_mostLeft, cX5_mostLeft, 10, (some .int))
theorem mok_X5_mostLeft : MOK kX5_mostLeft 3 := ⟨by decide +kernel, co_yX5_mostLeft, ini_X5, ⟨by decide +kernel, by decide +kernel⟩, by decide +kernel⟩
abbrev kJ7_fill_53178 : MI := (yJ7_fill_53178, cJ7_fill_53178, 4, none)
theorem mok_J7_fill_53178 : MOK kJ7_fill_53178 2 := ⟨by decide +kernel, co_yJ7_fill_53178, ini_J7, ⟨by decide +kernel, by decide +kernel⟩, by decide +kernel⟩
abbrev kX6_hasBit : MI := (yX6_hasBit, cX6_hasBit, 2, (some .boolean))
theorem mok_X6_hasBit : MOK kX6_hasBit 2 := ⟨by decide +kernel, co_yX6_hasBit, ini_X6, ⟨by decide +kernel, by decide +kernel⟩, by decide +kernel⟩
abbrev kX6_put : MI := (yX6_put, cX6_put, 3, none)
theorem mok_X6_put : MOK kX6_put 3 := ⟨by decide +kernel, co_yX6_put, ini_X6, ⟨by decide +kernel, by decide +kernel⟩, by decide +kernel⟩
abbrev kJ9_max_7cf53 : MI := (yJ9_max_7cf53, cJ9_max_7cf53, 2, (some .int))
abbrev kX6_as : MI := (yX6_as, cX6_as, 3, (some .int))
theorem mok_X6_as : MOK kX6_as 2 := ⟨by decide +kernel, co_yX6_as, ini_X6, ⟨by decide +kernel, by decide +kernel⟩, by decide +kernel⟩
abbrev kX6_within : MI := (yX6_within, cX6_within, 3, (some .boolean))
theorem mok_X6_within : MOK kX6_within 3 := ⟨by decide +kernel, co_yX6_within, ini_X6, ⟨by decide +kernel, by decide +kernel⟩, by decide +kernel⟩
abbrev kX6_isOfKind : MI := (yX6_isOfKind, cX6_isOfKind, 2, (some .boolean))
theorem mok_X6_isOfKind : MOK kX6_isOfKind 2 := ⟨by decide +kernel, co_yX6_isOfKind, ini_X6, ⟨by decide +kernel, by decide +kernel⟩, by decide +kernel⟩
abbrev kX6_wearer : MI := (yX6_wearer, cX6_wearer, 3, (some .int))
theorem mok_X6_wearer : MOK kX6_wearer 2 := ⟨by decide +kernel, co_yX6_wearer, ini_X6, ⟨by decide +kernel, by decide +kernel⟩, by decide +kernel⟩
abbrev kX5_hasWearer : MI := (yX5_hasWearer, cX5_hasWearer, 2, (some .boolean))
theorem mok_X5_hasWearer : MOK kX5_hasWearer 1 := ⟨by decide +kernel, co_yX5_hasWearer, ini_X5, ⟨by decide +kernel, by decide +kernel⟩, by decide +kernel⟩
abbrev kX5_moodOf : MI := (yX5_moodOf, cX5_moodOf, 3, (some .int))
theorem mok_X5_moodOf : MOK kX5_moodOf 2 := ⟨by decide +kernel, co_yX5_moodOf, ini_X5, ⟨by decide +kernel, by decide +kernel⟩, by decide +kernel⟩
abbrev kX5_heldBy : MI := (yX5_heldBy, cX5_heldBy, 4, (some .int))
theorem mok_X5_heldBy : MOK kX5_heldBy 1 := ⟨by decide +kernel, co_yX5_heldBy, ini_X5, ⟨by decide +kernel, by decide +kernel⟩, by decide +kernel⟩
abbrev kX5_moodWith : MI := (yX5_moodWith, cX5_moodWith, 9, (some .int))
theorem mok_X5_moodWith : MOK kX5_moodWith 3 := ⟨by decide +kernel, co_yX5_moodWith, ini_X5, ⟨by decide +kernel, by decide +kernel⟩, by decide +kernel⟩
abbrev kJ9_min_7cf53 : MI := (yJ9_min_7cf53, cJ9_min_7cf53, 2, (some .int))
abbrev kX5_gloveOn : MI := (yX5_gloveOn, cX5_gloveOn, 4, (some .int))
theorem mok_X5_gloveOn : MOK kX5_gloveOn 2 := ⟨by decide +kernel, co_yX5_gloveOn, ini_X5, ⟨by decide +kernel, by decide +kernel⟩, by decide +kernel⟩
abbrev kX6_doing : MI := (yX6_doing, cX6_doing, 1, (some .int))
theorem mok_X6_doing : MOK kX6_doing 1 := ⟨by decide +kernel, co_yX6_doing, ini_X6, ⟨by decide +kernel, by decide +kernel⟩, by decide +kernel⟩
abbrev kX5_pleases : MI := (yX5_pleases, cX5_pleases, 4, (some .boolean))
theorem mok_X5_pleases : MOK kX5_pleases 2 := ⟨by decide +kernel, co_yX5_pleases, ini_X5, ⟨by decide +kernel, by decide +kernel⟩, by decide +kernel⟩
abbrev kX5_stillSet : MI := (yX5_stillSet, cX5_stillSet, 9, (some .int))
theorem mok_X5_stillSet : MOK kX5_stillSet 1 := ⟨by decide +kernel, co_yX5_stillSet, ini_X5, ⟨by decide +kernel, by decide +kernel⟩, by decide +kernel⟩
abbrev kJ6_bitCount_0f7a4 : MI := (yJ6_bitCount_0f7a4, cJ6_bitCount_0f7a4, 1, (some .int))
theorem mok_J6_bitCount_0f7a4 : MOK kJ6_bitCount_0f7a4 1 := ⟨by decide +kernel, co_yJ6_bitCount_0f7a4, ini_J6, ⟨by decide +kernel, by decide +kernel⟩, by decide +kernel⟩
abbrev kX5_changesTo : MI := (yX5_changesTo, cX5_changesTo, 3, (some .int))
theorem mok_X5_changesTo : MOK kX5_changesTo 2 := ⟨by decide +kernel, co_yX5_changesTo, ini_X5, ⟨by decide +kernel, by decide +kernel⟩, by decide +kernel⟩
abbrev kX6_wear : MI := (yX6_wear, cX6_wear, 4, (some .int))
theorem mok_X6_wear : MOK kX6_wear 3 := ⟨by decide +kernel, co_yX6_wear, ini_X6, ⟨by decide +kernel, by decide +kernel⟩, by decide +kernel⟩
abbrev kX5_putOn : MI := (yX5_putOn, cX5_putOn, 4, none)
theorem mok_X5_putOn : MOK kX5_putOn 3 := ⟨by decide +kernel, co_yX5_putOn, ini_X5, ⟨by decide +kernel, by decide +kernel⟩, by decide +kernel⟩
abbrev kX6_off : MI := (yX6_off, cX6_off, 3, (some .int))
theorem mok_X6_off : MOK kX6_off 1 := ⟨by decide +kernel, co_yX6_off, ini_X6, ⟨by decide +kernel, by decide +kernel⟩, by decide +kernel⟩
abbrev kX5_takeOff : MI := (yX5_takeOff, cX5_takeOff, 2, none)
theorem mok_X5_takeOff : MOK kX5_takeOff 1 := ⟨by decide +kernel, co_yX5_takeOff, ini_X5, ⟨by decide +kernel, by decide +kernel⟩, by decide +kernel⟩
abbrev kX6_book : MI := (yX6_book, cX6_book, 4, (some .int))
theorem mok_X6_book : MOK kX6_book 2 := ⟨by decide +kernel, co_yX6_book, ini_X6, ⟨by decide +kernel, by decide +kernel⟩, by decide +kernel⟩
abbrev kX6_wish : MI := (yX6_wish, cX6_wish, 5, (some .int))
theorem mok_X6_wish : MOK kX6_wish 3 := ⟨by decide +kernel, co_yX6_wish, ini_X6, ⟨by decide +kernel, by decide +kernel⟩, by decide +kernel⟩
abbrev kX6_mood : MI := (yX6_mood, cX6_mood, 3, (some .int))
theorem mok_X6_mood : MOK kX6_mood 2 := ⟨by decide +kernel, co_yX6_mood, ini_X6, ⟨by decide +kernel, by decide +kernel⟩, by decide +kernel⟩
abbrev kX6_teas : MI := (yX6_teas, cX6_teas, 6, (some .int))
theorem mok_X6_teas : MOK kX6_teas 3 := ⟨by decide +kernel, co_yX6_teas, ini_X6, ⟨by decide +kernel, by decide +kernel⟩, by decide +kernel⟩
abbrev kX6_hasShop : MI := (yX6_hasShop, cX6_hasShop, 1, (some .boolean))
theorem mok_X6_hasShop : MOK kX6_hasShop 0 := ⟨by decide +kernel, co_yX6_hasShop, ini_X6, ⟨by decide +kernel, by decide +kernel⟩, by decide +kernel⟩
abbrev kX5_copyFrom : MI := (yX5_copyFrom, cX5_copyFrom, 2, none)
theorem mok_X5_copyFrom : MOK kX5_copyFrom 1 := ⟨by decide +kernel, co_yX5_copyFrom, ini_X5, ⟨by decide +kernel, by decide +kernel⟩, by decide +kernel⟩
abbrev kX6_copyRow : MI := (yX6_copyRow, cX6_copyRow, 2, none)
theorem mok_X6_copyRow : MOK kX6_copyRow 2 := ⟨by decide +kernel, co_yX6_copyRow, ini_X6, ⟨by decide +kernel, by decide +kernel⟩, by decide +kernel⟩
abbrev kX5_changeByDraws : MI := (yX5_changeByDraws, cX5_changeByDraws, 5, none)
theorem mok_X5_changeByDraws : MOK kX5_changeByDraws 1 := ⟨by decide +kernel, co_yX5_changeByDraws, ini_X5, ⟨by decide +kernel, by decide +kernel⟩, by decide +kernel⟩
abbrev kX1_next : MI := (yX1_next, cX1_next, 2, (some .int))
theorem mok_X1_next : MOK kX1_next 1 := ⟨by decide +kernel, co_yX1_next, ini_X1, ⟨by decide +kernel, by decide +kernel⟩, by decide +kernel⟩
abbrev kX5_passHour : MI := (yX5_passHour, cX5_passHour, 2, none)
theorem mok_X5_passHour : MOK kX5_passHour 0 := ⟨by decide +kernel, co_yX5_passHour, ini_X5, ⟨by decide +kernel, by decide +kernel⟩, by decide +kernel⟩
abbrev kX5_countDoing : MI := (yX5_countDoing, cX5_countDoing, 4, (some .int))
theorem mok_X5_countDoing : MOK kX5_countDoing 1 := ⟨by decide +kernel, co_yX5_countDoing, ini_X5, ⟨by decide +kernel, by decide +kernel⟩, by decide +kernel⟩
abbrev kX5_countOnHands : MI := (yX5_countOnHands, cX5_countOnHands, 1, (some .int))
theorem mok_X5_countOnHands : MOK kX5_countOnHands 0 := ⟨by decide +kernel, co_yX5_countOnHands, ini_X5, ⟨by decide +kernel, by decide +kernel⟩, by decide +kernel⟩
abbrev kL_cell : MI := (yL_cell, cL_cell, 2, (some .int))
theorem mok_L_cell : MOK kL_cell 2 := ⟨by decide +kernel, co_yL_cell, ini_L, ⟨by decide +kernel, by decide +kernel⟩, by decide +kernel⟩
abbrev kL_shop : MI := (yL_shop, cL_shop, 8, (some .boolean))
theorem mok_L_shop : MOK kL_shop 4 := ⟨by decide +kernel, co_yL_shop, ini_L, ⟨by decide +kernel, by decide +kernel⟩, by decide +kernel⟩
abbrev kL_put : MI := (yL_put, cL_put, 2, (some .boolean))
theorem mok_L_put : MOK kL_put 2 := ⟨by decide +kernel, co_yL_put, ini_L, ⟨by decide +kernel, by decide +kernel⟩, by decide +kernel⟩
abbrev kX6_letter : MI := (yX6_letter, cX6_letter, 2, (some .int))
theorem mok_X6_letter : MOK kX6_letter 1 := ⟨by decide +kernel, co_yX6_letter, ini_X6, ⟨by decide +kernel, by decide +kernel⟩, by decide +kernel⟩
abbrev kX4_add : MI := (yX4_add, cX4_add, 2, (some .boolean))
theorem mok_X4_add : MOK kX4_add 1 := ⟨by decide +kernel, co_yX4_add, ini_X4, ⟨by decide +kernel, by decide +kernel⟩, by decide +kernel⟩
abbrev kX6_fault : MI := (yX6_fault, cX6_fault, 1, (some .int))
theorem mok_X6_fault : MOK kX6_fault 0 := ⟨by decide +kernel, co_yX6_fault, ini_X6, ⟨by decide +kernel, by decide +kernel⟩, by decide +kernel⟩
abbrev kX4_firstFault : MI := (yX4_firstFault, cX4_firstFault, 5, (some .int))
theorem mok_X4_firstFault : MOK kX4_firstFault 0 := ⟨by decide +kernel, co_yX4_firstFault, ini_X4, ⟨by decide +kernel, by decide +kernel⟩, by decide +kernel⟩
abbrev kX4_semicolon : MI := (yX4_semicolon, cX4_semicolon, 2, (some .int))
theorem mok_X4_semicolon : MOK kX4_semicolon 0 := ⟨by decide +kernel, co_yX4_semicolon, ini_X4, ⟨by decide +kernel, by decide +kernel⟩, by decide +kernel⟩
abbrev kX4_isNerve : MI := (yX4_isNerve, cX4_isNerve, 2, (some .boolean))
theorem mok_X4_isNerve : MOK kX4_isNerve 2 := ⟨by decide +kernel, co_yX4_isNerve, ini_X4, ⟨by decide +kernel, by decide +kernel⟩, by decide +kernel⟩
abbrev kX4_isDigit : MI := (yX4_isDigit, cX4_isDigit, 1, (some .boolean))
theorem mok_X4_isDigit : MOK kX4_isDigit 1 := ⟨by decide +kernel, co_yX4_isDigit, ini_X4, ⟨by decide +kernel, by decide +kernel⟩, by decide +kernel⟩
abbrev kX4_isOfGloves : MI := (yX4_isOfGloves, cX4_isOfGloves, 3, (some .boolean))
theorem mok_X4_isOfGloves : MOK kX4_isOfGloves 2 := ⟨by decide +kernel, co_yX4_isOfGloves, ini_X4, ⟨by decide +kernel, by decide +kernel⟩, by decide +kernel⟩
abbrev kX6_kindOf : MI := (yX6_kindOf, cX6_kindOf, 1, (some .int))
theorem mok_X6_kindOf : MOK kX6_kindOf 1 := ⟨by decide +kernel, co_yX6_kindOf, ini_X6, ⟨by decide +kernel, by decide +kernel⟩, by decide +kernel⟩
abbrev kX6_shop : MI := (yX6_shop, cX6_shop, 1, (some .int))
theorem mok_X6_shop : MOK kX6_shop 0 := ⟨by decide +kernel, co_yX6_shop, ini_X6, ⟨by decide +kernel, by decide +kernel⟩, by decide +kernel⟩
abbrev kX4_isShop : MI := (yX4_isShop, cX4_isShop, 2, (some .boolean))
theorem mok_X4_isShop : MOK kX4_isShop 0 := ⟨by decide +kernel, co_yX4_isShop, ini_X4, ⟨by decide +kernel, by decide +kernel⟩, by decide +kernel⟩
abbrev kX4_readInto : MI := (yX4_readInto, cX4_readInto, 4, none)
theorem mok_X4_readInto : MOK kX4_readInto 1 := ⟨by decide +kernel, co_yX4_readInto, ini_X4, ⟨by decide +kernel, by decide +kernel⟩, by decide +kernel⟩
abbrev kX5_open : MI := (yX5_open, cX5_open, 3, none)
theorem mok_X5_open : MOK kX5_open 2 := ⟨by decide +kernel, co_yX5_open, ini_X5, ⟨by decide +kernel, by decide +kernel⟩, by decide +kernel⟩
abbrev kL_mood : MI := (yL_mood, cL_mood, 7, (some .int))
theorem mok_L_mood : MOK kL_mood 4 := ⟨by decide +kernel, co_yL_mood, ini_L, ⟨by decide +kernel, by decide +kernel⟩, by decide +kernel⟩
abbrev kL_then : MI := (yL_then, cL_then, 4, (some .int))
theorem mok_L_then : MOK kL_then 3 := ⟨by decide +kernel, co_yL_then, ini_L, ⟨by decide +kernel, by decide +kernel⟩, by decide +kernel⟩
abbrev kL_temper : MI := (yL_temper, cL_temper, 4, (some .int))
theorem mok_L_temper : MOK kL_temper 3 := ⟨by decide +kernel, co_yL_temper, ini_L, ⟨by decide +kernel, by decide +kernel⟩, by decide +kernel⟩
abbrev kL_quarrel : MI := (yL_quarrel, cL_quarrel, 5, (some .boolean))
theorem mok_L_quarrel : MOK kL_quarrel 4 := ⟨by decide +kernel, co_yL_quarrel, ini_L, ⟨by decide +kernel, by decide +kernel⟩, by decide +kernel⟩
abbrev kL_worn : MI := (yL_worn, cL_worn, 4, (some .int))
theorem mok_L_worn : MOK kL_worn 2 := ⟨by decide +kernel, co_yL_worn, ini_L, ⟨by decide +kernel, by decide +kernel⟩, by decide +kernel⟩
abbrev kL_doing : MI := (yL_doing, cL_doing, 1, (some .int))
theorem mok_L_doing : MOK kL_doing 1 := ⟨by decide +kernel, co_yL_doing, ini_L, ⟨by decide +kernel, by decide +kernel⟩, by decide +kernel⟩
abbrev kL_onHand : MI := (yL_onHand, cL_onHand, 5, (some .int))
theorem mok_L_onHand : MOK kL_onHand 3 := ⟨by decide +kernel, co_yL_onHand, ini_L, ⟨by decide +kernel, by decide +kernel⟩, by decide +kernel⟩
abbrev kL_hour : MI := (yL_hour, cL_hour, 2, none)
theorem mok_L_hour : MOK kL_hour 1 := ⟨by decide +kernel, co_yL_hour, ini_L, ⟨by decide +kernel, by decide +kernel⟩, by decide +kernel⟩
abbrev kL_ones : MI := (yL_ones, cL_ones, 3, (some .int))
theorem mok_L_ones : MOK kL_ones 1 := ⟨by decide +kernel, co_yL_ones, ini_L, ⟨by decide +kernel, by decide +kernel⟩, by decide +kernel⟩
abbrev kL_act : MI := (yL_act, cL_act, 8, (some .boolean))
theorem mok_L_act : MOK kL_act 3 := ⟨by decide +kernel, co_yL_act, ini_L, ⟨by decide +kernel, by decide +kernel⟩, by decide +kernel⟩
abbrev kX6_hour : MI := (yX6_hour, cX6_hour, 1, (some .int))
theorem mok_X6_hour : MOK kX6_hour 0 := ⟨by decide +kernel, co_yX6_hour, ini_X6, ⟨by decide +kernel, by decide +kernel⟩, by decide +kernel⟩
abbrev kL_told : MI := (yL_told, cL_told, 11, (some .boolean))
theorem mok_L_told : MOK kL_told 3 := ⟨by decide +kernel, co_yL_told, ini_L, ⟨by decide +kernel, by decide +kernel⟩, by decide +kernel⟩
abbrev kL_well : MI := (yL_well, cL_well, 3, (some .boolean))
theorem mok_L_well : MOK kL_well 3 := ⟨by decide +kernel, co_yL_well, ini_L, ⟨by decide +kernel, by decide +kernel⟩, by decide +kernel⟩
abbrev kX6_count : MI := (yX6_count, cX6_count, 2, (some .int))
theorem mok_X6_count : MOK kX6_count 1 := ⟨by decide +kernel, co_yX6_count, ini_X6, ⟨by decide +kernel, by decide +kernel⟩, by decide +kernel⟩
abbrev kX5_countPleased : MI := (yX5_countPleased, cX5_countPleased, 3, (some .int))
theorem mok_X5_countPleased : MOK kX5_countPleased 0 := ⟨by decide +kernel, co_yX5_countPleased, ini_X5, ⟨by decide +kernel, by decide +kernel⟩, by decide +kernel⟩
abbrev kX5_countQuarrels : MI := (yX5_countQuarrels, cX5_countQuarrels, 3, (some .int))
theorem mok_X5_countQuarrels : MOK kX5_countQuarrels 0 := ⟨by decide +kernel, co_yX5_countQuarrels, ini_X5, ⟨by decide +kernel, by decide +kernel⟩, by decide +kernel⟩
abbrev kX5_sumOfTempers : MI := (yX5_sumOfTempers, cX5_sumOfTempers, 3, (some .int))
theorem mok_X5_sumOfTempers : MOK kX5_sumOfTempers 0 := ⟨by decide +kernel, co_yX5_sumOfTempers, ini_X5, ⟨by decide +kernel, by decide +kernel⟩, by decide +kernel⟩
theorem fok_X4_9 : FOK RX4 9 4 0 := ⟨RX4, TX4, 2, tyX4, rfl, by decide, inX4, fl_X4_9, tyX4_ok, nmX4, rfl, by decide +kernel, by decide +kernel, by decide +kernel, by decide +kernel⟩
theorem fok_X4_15 : FOK RX4 15 4 1 := ⟨RX4, TX4, 2, tyX4, rfl, by decide, inX4, fl_X4_15, tyX4_ok, nmX4, rfl, by decide +kernel, by decide +kernel, by decide +kernel, by decide +kernel⟩
theorem fok_X6_65 : FOK RX6 65 4 1 := ⟨RX4, TX4, 2, tyX4, rfl, by decide, inX4, fl_X6_65, tyX4_ok, nmX4, rfl, by decide +kernel, by decide +kernel, by decide +kernel, by decide +kernel⟩
theorem fok_X5_9 : FOK RX5 9 5 0 := ⟨RX5, TX5, 15, tyX5, rfl, by decide, inX5, fl_X5_9, tyX5_ok, nmX5, rfl, by decide +kernel, by decide +kernel, by decide +kernel, by decide +kernel⟩
theorem fok_X6_94 : FOK RX6 94 5 0 := ⟨RX5, TX5, 15, tyX5, rfl, by decide, inX5, fl_X6_94, tyX5_ok, nmX5, rfl, by decide +kernel, by decide +kernel, by decide +kernel, by decide +kernel⟩
theorem fok_X4_62 : FOK RX4 62 5 0 := ⟨RX5, TX5, 15, tyX5, rfl, by decide, inX5, fl_X4_62, tyX5_ok, nmX5, rfl, by decide +kernel, by decide +kernel, by decide +kernel, by decide +kernel⟩
theorem fok_X5_15 : FOK RX5 15 5 1 := ⟨RX5, TX5, 15, tyX5, rfl, by decide, inX5, fl_X5_15, tyX5_ok, nmX5, rfl, by decide +kernel, by decide +kernel, by decide +kernel, by decide +kernel⟩
theorem fok_X6_102 : FOK RX6 102 5 1 := ⟨RX5, TX5, 15, tyX5, rfl, by decide, inX5, fl_X6_102, tyX5_ok, nmX5, rfl, by decide +kernel, by decide +kernel, by decide +kernel, by decide +kernel⟩
theorem fok_X4_65 : FOK RX4 65 5 1 := ⟨RX5, TX5, 15, tyX5, rfl, by decide, inX5, fl_X4_65, tyX5_ok, nmX5, rfl, by decide +kernel, by decide +kernel, by decide +kernel, by decide +kernel⟩
theorem fok_X5_18 : FOK RX5 18 5 2 := ⟨RX5, TX5, 15, tyX5, rfl, by decide, inX5, fl_X5_18, tyX5_ok, nmX5, rfl, by decide +kernel, by decide +kernel, by decide +kernel, by decide +kernel⟩
theorem fok_X6_105 : FOK RX6 105 5 2 := ⟨RX5, TX5, 15, tyX5, rfl, by decide, inX5, fl_X6_105, tyX5_ok, nmX5, rfl, by decide +kernel, by decide +kernel, by decide +kernel, by decide +kernel⟩
theorem fok_X5_21 : FOK RX5 21 5 3 := ⟨RX5, TX5, 15, tyX5, rfl, by decide, inX5, fl_X5_21, tyX5_ok, nmX5, rfl, by decide +kernel, by decide +kernel, by decide +kernel, by decide +kernel⟩
theorem fok_X6_112 : FOK RX6 112 5 3 := ⟨RX5, TX5, 15, tyX5, rfl, by decide, inX5, fl_X6_112, tyX5_ok, nmX5, rfl, by decide +kernel, by decide +kernel, by decide +kernel, by decide +kernel⟩
theorem fok_X5_24 : FOK RX5 24 5 4 := ⟨RX5, TX5, 15, tyX5, rfl, by decide, inX5, fl_X5_24, tyX5_ok, nmX5, rfl, by decide +kernel, by decide +kernel, by decide +kernel, by decide +kernel⟩
theorem fok_X6_115 : FOK RX6 115 5 4 := ⟨RX5, TX5, 15, tyX5, rfl, by decide, inX5, fl_X6_115, tyX5_ok, nmX5, rfl, by decide +kernel, by decide +kernel, by decide +kernel, by decide +kernel⟩
theorem fok_X5_27 : FOK RX5 27 5 5 := ⟨RX5, TX5, 15, tyX5, rfl, by decide, inX5, fl_X5_27, tyX5_ok, nmX5, rfl, by decide +kernel, by decide +kernel, by decide +kernel, by decide +kernel⟩
theorem fok_X6_135 : FOK RX6 135 5 5 := ⟨RX5, TX5, 15, tyX5, rfl, by decide, inX5, fl_X6_135, tyX5_ok, nmX5, rfl, by decide +kernel, by decide +kernel, by decide +kernel, by decide +kernel⟩
theorem fok_X4_71 : FOK RX4 71 5 5 := ⟨RX5, TX5, 15, tyX5, rfl, by decide, inX5, fl_X4_71, tyX5_ok, nmX5, rfl, by decide +kernel, by decide +kernel, by decide +kernel, by decide +kernel⟩
theorem fok_X5_30 : FOK RX5 30 5 6 := ⟨RX5, TX5, 15, tyX5, rfl, by decide, inX5, fl_X5_30, tyX5_ok, nmX5, rfl, by decide +kernel, by decide +kernel, by decide +kernel, by decide +kernel⟩
theorem fok_X6_147 : FOK RX6 147 5 6 := ⟨RX5, TX5, 15, tyX5, rfl, by decide, inX5, fl_X6_147, tyX5_ok, nmX5, rfl, by decide +kernel, by decide +kernel, by decide +kernel, by decide +kernel⟩
theorem fok_X5_33 : FOK RX5 33 5 7 := ⟨RX5, TX5, 15, tyX5, rfl, by decide, inX5, fl_X5_33, tyX5_ok, nmX5, rfl, by decide +kernel, by decide +kernel, by decide +kernel, by decide +kernel⟩
theorem fok_X5_36 : FOK RX5 36 5 8 := ⟨RX5, TX5, 15, tyX5, rfl, by decide, inX5, fl_X5_36, tyX5_ok, nmX5, rfl, by decide +kernel, by decide +kernel, by decide +kernel, by decide +kernel⟩
theorem fok_X5_39 : FOK RX5 39 5 9 := ⟨RX5, TX5, 15, tyX5, rfl, by decide, inX5, fl_X5_39, tyX5_ok, nmX5, rfl, by decide +kernel, by decide +kernel, by decide +kernel, by decide +kernel⟩
theorem fok_X5_42 : FOK RX5 42 5 10 := ⟨RX5, TX5, 15, tyX5, rfl, by decide, inX5, fl_X5_42, tyX5_ok, nmX5, rfl, by decide +kernel, by decide +kernel, by decide +kernel, by decide +kernel⟩
theorem fok_X5_45 : FOK RX5 45 5 11 := ⟨RX5, TX5, 15, tyX5, rfl, by decide, inX5, fl_X5_45, tyX5_ok, nmX5, rfl, by decide +kernel, by decide +kernel, by decide +kernel, by decide +kernel⟩
theorem fok_X6_88 : FOK RX6 88 5 11 := ⟨RX5, TX5, 15, tyX5, rfl, by decide, inX5, fl_X6_88, tyX5_ok, nmX5, rfl, by decide +kernel, by decide +kernel, by decide +kernel, by decide +kernel⟩
theorem fok_X4_59 : FOK RX4 59 5 11 := ⟨RX5, TX5, 15, tyX5, rfl, by decide, inX5, fl_X4_59, tyX5_ok, nmX5, rfl, by decide +kernel, by decide +kernel, by decide +kernel, by decide +kernel⟩
theorem fok_X5_49 : FOK RX5 49 5 12 := ⟨RX5, TX5, 15, tyX5, rfl, by decide, inX5, fl_X5_49, tyX5_ok, nmX5, rfl, by decide +kernel, by decide +kernel, by decide +kernel, by decide +kernel⟩
theorem fok_X4_68 : FOK RX4 68 5 12 := ⟨RX5, TX5, 15, tyX5, rfl, by decide, inX5, fl_X4_68, tyX5_ok, nmX5, rfl, by decide +kernel, by decide +kernel, by decide +kernel, by decide +kernel⟩
theorem fok_X6_238 : FOK RX6 238 5 12 := ⟨RX5, TX5, 15, tyX5, rfl, by decide, inX5, fl_X6_238, tyX5_ok, nmX5, rfl, by decide +kernel, by decide +kernel, by decide +kernel, by decide +kernel⟩
theorem fok_X5_52 : FOK RX5 52 5 13 := ⟨RX5, TX5, 15, tyX5, rfl, by decide, inX5, fl_X5_52, tyX5_ok, nmX5, rfl, by decide +kernel, by decide +kernel, by decide +kernel, by decide +kernel⟩
theorem fok_X6_170 : FOK RX6 170 5 13 := ⟨RX5, TX5, 15, tyX5, rfl, by decide, inX5, fl_X6_170, tyX5_ok, nmX5, rfl, by decide +kernel, by decide +kernel, by decide +kernel, by decide +kernel⟩
theorem fok_X5_55 : FOK RX5 55 5 14 := ⟨RX5, TX5, 15, tyX5, rfl, by decide, inX5, fl_X5_55, tyX5_ok, nmX5, rfl, by decide +kernel, by decide +kernel, by decide +kernel, by decide +kernel⟩
theorem fok_X6_219 : FOK RX6 219 5 14 := ⟨RX5, TX5, 15, tyX5, rfl, by decide, inX5, fl_X6_219, tyX5_ok, nmX5, rfl, by decide +kernel, by decide +kernel, by decide +kernel, by decide +kernel⟩
theorem fok_X2_9 : FOK RX2 9 2 0 := ⟨RX2, TX2, 6, tyX2, rfl, by decide, inX2, fl_X2_9, tyX2_ok, nmX2, rfl, by decide +kernel, by decide +kernel, by decide +kernel, by decide +kernel⟩
theorem fok_X2_15 : FOK RX2 15 2 1 := ⟨RX2, TX2, 6, tyX2, rfl, by decide, inX2, fl_X2_15, tyX2_ok, nmX2, rfl, by decide +kernel, by decide +kernel, by decide +kernel, by decide +kernel⟩
theorem fok_X2_18 : FOK RX2 18 2 2 := ⟨RX2, TX2, 6, tyX2, rfl, by decide, inX2, fl_X2_18, tyX2_ok, nmX2, rfl, by decide +kernel, by decide +kernel, by decide +kernel, by decide +kernel⟩
theorem fok_X2_21 : FOK RX2 21 2 3 := ⟨RX2, TX2, 6, tyX2, rfl, by decide, inX2, fl_X2_21, tyX2_ok, nmX2, rfl, by decide +kernel, by decide +kernel, by decide +kernel, by decide +kernel⟩
theorem fok_X3_9 : FOK RX3 9 3 0 := ⟨RX3, TX3, 5, tyX3, rfl, by decide, inX3, fl_X3_9, tyX3_ok, nmX3, rfl, by decide +kernel, by decide +kernel, by decide +kernel, by decide +kernel⟩
theorem fok_X3_15 : FOK RX3 15 3 1 := ⟨RX3, TX3, 5, tyX3, rfl, by decide, inX3, fl_X3_15, tyX3_ok, nmX3, rfl, by decide +kernel, by decide +kernel, by decide +kernel, by decide +kernel⟩
theorem fok_X3_18 : FOK RX3 18 3 2 := ⟨RX3, TX3, 5, tyX3, rfl, by decide, inX3, fl_X3_18, tyX3_ok, nmX3, rfl, by decide +kernel, by decide +kernel, by decide +kernel, by decide +kernel⟩
theorem fok_X3_21 : FOK RX3 21 3 3 := ⟨RX3, TX3, 5, tyX3, rfl, by decide, inX3, fl_X3_21, tyX3_ok, nmX3, rfl, by decide +kernel, by decide +kernel, by decide +kernel, by decide +kernel⟩
theorem fok_X0_9 : FOK RX0 9 0 0 := ⟨RX0, TX0, 2, tyX0, rfl, by decide, inX0, fl_X0_9, tyX0_ok, nmX0, rfl, by decide +kernel, by decide +kernel, by decide +kernel, by decide +kernel⟩
theorem fok_X1_9 : FOK RX1 9 1 0 := ⟨RX1, TX1, 1, tyX1, rfl, by decide, inX1, fl_X1_9, tyX1_ok, nmX1, rfl, by decide +kernel, by decide +kernel, by decide +kernel, by decide +kernel⟩
theorem fok_X6_225 : FOK RX6 225 1 0 := ⟨RX1, TX1, 1, tyX1, rfl, by decide, inX1, fl_X6_225, tyX1_ok, nmX1, rfl, by decide +kernel, by decide +kernel, by decide +kernel, by decide +kernel⟩
theorem fok_X6_12 : FOK RX6 12 6 0 := ⟨RX6, TX6, 11, tyX6, rfl, by decide, inX6, fl_X6_12, tyX6_ok, nmX6, rfl, by decide +kernel, by decide +kernel, by decide +kernel, by decide +kernel⟩
theorem fok_X6_19 : FOK RX6 19 6 1 := ⟨RX6, TX6, 11, tyX6, rfl, by decide, inX6, fl_X6_19, tyX6_ok, nmX6, rfl, by decide +kernel, by decide +kernel, by decide +kernel, by decide +kernel⟩
theorem fok_X6_23 : FOK RX6 23 6 2 := ⟨RX6, TX6, 11, tyX6, rfl, by decide, inX6, fl_X6_23, tyX6_ok, nmX6, rfl, by decide +kernel, by decide +kernel, by decide +kernel, by decide +kernel⟩
theorem fok_X6_26 : FOK RX6 26 6 3 := ⟨RX6, TX6, 11, tyX6, rfl, by decide, inX6, fl_X6_26, tyX6_ok, nmX6, rfl, by decide +kernel, by decide +kernel, by decide +kernel, by decide +kernel⟩
theorem fok_X6_32 : FOK RX6 32 6 4 := ⟨RX6, TX6, 11, tyX6, rfl, by decide, inX6, fl_X6_32, tyX6_ok, nmX6, rfl, by decide +kernel, by decide +kernel, by decide +kernel, by decide +kernel⟩
theorem fok_X6_39 : FOK RX6 39 6 5 := ⟨RX6, TX6, 11, tyX6, rfl, by decide, inX6, fl_X6_39, tyX6_ok, nmX6, rfl, by decide +kernel, by decide +kernel, by decide +kernel, by decide +kernel⟩
theorem fok_X6_46 : FOK RX6 46 6 6 := ⟨RX6, TX6, 11, tyX6, rfl, by decide, inX6, fl_X6_46, tyX6_ok, nmX6, rfl, by decide +kernel, by decide +kernel, by decide +kernel, by decide +kernel⟩
theorem fok_X6_53 : FOK RX6 53 6 7 := ⟨RX6, TX6, 11, tyX6, rfl, by decide, inX6, fl_X6_53, tyX6_ok, nmX6, rfl, by decide +kernel, by decide +kernel, by decide +kernel, by decide +kernel⟩
theorem fok_X6_81 : FOK RX6 81 6 8 := ⟨RX6, TX6, 11, tyX6, rfl, by decide, inX6, fl_X6_81, tyX6_ok, nmX6, rfl, by decide +kernel, by decide +kernel, by decide +kernel, by decide +kernel⟩
theorem fok_X6_85 : FOK RX6 85 6 9 := ⟨RX6, TX6, 11, tyX6, rfl, by decide, inX6, fl_X6_85, tyX6_ok, nmX6, rfl, by decide +kernel, by decide +kernel, by decide +kernel, by decide +kernel⟩
theorem fok_X6_183 : FOK RX6 183 6 10 := ⟨RX6, TX6, 11, tyX6, rfl, by decide, inX6, fl_X6_183, tyX6_ok, nmX6, rfl, by decide +kernel, by decide +kernel, by decide +kernel, by decide +kernel⟩
theorem xj_mmax {sc : Option (Nat × (Int → Int))} {d : Nat} {k : MI} {h : Hp} {pc pc2 : Nat} {lo : Lo} {st : List Value} {Q : Int → Hp → Prop} {a b : Int} {cs : String} {idx : Nat} (hlk : Cond.methodLink cs idx yJ9_max_7cf53 ∈ wT) (hd : decode k.2.1 pc = .ok (.invokestatic idx, 3)) (hp : pc + 3 = pc2) (he : k.1.cls = cs) (ha : -2147483648 ≤ a ∧ a ≤ 2147483647) (hb : -2147483648 ≤ b ∧ b ≤ 2147483647) (hst : (st.map fun v => v.category).sum ≤ 8) (kk : XJ sc d k h pc2 lo (vi (max a b) :: st) Q) : XJ sc d k h pc lo (vi b :: vi a :: st) Q := by
  subst hp
  intro p l e R s m args below meth c Z G A cells slots C w z r f H locs ls hP hS hl
  have K := kk p l e R s m args below meth c Z G A cells slots C w z r f H locs ls hP hS hl
  have hf := C.2.2.2.2.2.2.2.2.1
  have hlo := C.2.2.2.2.2.2.2.2.2
  refine va_mmax C.1 C.2.1 (C.2.2.1.trans hl.1.symm) (he ▸ C.2.2.2.2.1) (C.2.2.2.2.2.1 _ hlk) (C.2.2.2.2.2.1 _ sta_yJ9_max_7cf53) (C.2.2.2.2.2.1 _ ini_J9) (C.2.2.2.2.2.1 _ co_yJ9_max_7cf53) (by omega) (by rw [sum_cat]; omega) r.1 r.2 hd ?_
  rw [show (if Int32.ofInt a < Int32.ofInt b then Int32.ofInt b else Int32.ofInt a) = Int32.ofInt (max a b) from by
    by_cases q : a < b
    · rw [if_pos ((rg_lt ha hb).mpr q)]; congr 1; omega
    · rw [if_neg (fun q2 => q ((rg_lt ha hb).mp q2))]; congr 1; omega]
  exact K
theorem xj_mmin {sc : Option (Nat × (Int → Int))} {d : Nat} {k : MI} {h : Hp} {pc pc2 : Nat} {lo : Lo} {st : List Value} {Q : Int → Hp → Prop} {a b : Int} {cs : String} {idx : Nat} (hlk : Cond.methodLink cs idx yJ9_min_7cf53 ∈ wT) (hd : decode k.2.1 pc = .ok (.invokestatic idx, 3)) (hp : pc + 3 = pc2) (he : k.1.cls = cs) (ha : -2147483648 ≤ a ∧ a ≤ 2147483647) (hb : -2147483648 ≤ b ∧ b ≤ 2147483647) (hst : (st.map fun v => v.category).sum ≤ 8) (kk : XJ sc d k h pc2 lo (vi (min a b) :: st) Q) : XJ sc d k h pc lo (vi b :: vi a :: st) Q := by
  subst hp
  intro p l e R s m args below meth c Z G A cells slots C w z r f H locs ls hP hS hl
  have K := kk p l e R s m args below meth c Z G A cells slots C w z r f H locs ls hP hS hl
  have hf := C.2.2.2.2.2.2.2.2.1
  have hlo := C.2.2.2.2.2.2.2.2.2
  refine va_mmin C.1 C.2.1 (C.2.2.1.trans hl.1.symm) (he ▸ C.2.2.2.2.1) (C.2.2.2.2.2.1 _ hlk) (C.2.2.2.2.2.1 _ sta_yJ9_min_7cf53) (C.2.2.2.2.2.1 _ ini_J9) (C.2.2.2.2.2.1 _ co_yJ9_min_7cf53) (by omega) (by rw [sum_cat]; omega) r.1 r.2 hd ?_
  rw [show (if Int32.ofInt b < Int32.ofInt a then Int32.ofInt b else Int32.ofInt a) = Int32.ofInt (min a b) from by
    by_cases q : b < a
    · rw [if_pos ((rg_lt hb ha).mpr q)]; congr 1; omega
    · rw [if_neg (fun q2 => q ((rg_lt hb ha).mp q2))]; congr 1; omega]
  exact K
theorem xj_mabs {sc : Option (Nat × (Int → Int))} {d : Nat} {k : MI} {h : Hp} {pc pc2 : Nat} {lo : Lo} {st : List Value} {Q : Int → Hp → Prop} {a : Int} {cs : String} {idx : Nat} (hlk : Cond.methodLink cs idx yJ9_abs_0f7a4 ∈ wT) (hd : decode k.2.1 pc = .ok (.invokestatic idx, 3)) (hp : pc + 3 = pc2) (he : k.1.cls = cs) (ha : -2147483648 ≤ a ∧ a ≤ 2147483647) (hst : (st.map fun v => v.category).sum ≤ 8) (kk : XJ sc d k h pc2 lo (vi (if 0 ≤ a then a else -a) :: st) Q) : XJ sc d k h pc lo (vi a :: st) Q := by
  subst hp
  intro p l e R s m args below meth c Z G A cells slots C w z r f H locs ls hP hS hl
  have K := kk p l e R s m args below meth c Z G A cells slots C w z r f H locs ls hP hS hl
  have hf := C.2.2.2.2.2.2.2.2.1
  have hlo := C.2.2.2.2.2.2.2.2.2
  refine va_mabs C.1 C.2.1 (C.2.2.1.trans hl.1.symm) (he ▸ C.2.2.2.2.1) (C.2.2.2.2.2.1 _ hlk) (C.2.2.2.2.2.1 _ sta_yJ9_abs_0f7a4) (C.2.2.2.2.2.1 _ ini_J9) (C.2.2.2.2.2.1 _ co_yJ9_abs_0f7a4) (by omega) (by rw [sum_cat]; omega) r.1 r.2 hd ?_
  rw [show (if 0 ≤ Int32.ofInt a then Int32.ofInt a else 0 - Int32.ofInt a) = Int32.ofInt (if 0 ≤ a then a else -a) from by
    rw [i0]
    by_cases q : 0 ≤ a
    · rw [if_pos q, if_pos ((rg_le r00 ha).mpr q)]
    · rw [if_neg q, if_neg (fun q2 => q ((rg_le r00 ha).mp q2)), ← Int32.ofInt_sub, Int.zero_sub]]
  exact K
abbrev kL_law : MI := (x, code, maxLocals, ret)
