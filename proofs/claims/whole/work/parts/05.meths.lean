theorem xj_S0I {sc : Option (Nat × (Int → Int))} {d d2 : Nat} {k k2 : MI} {h : Hp} {pc pc2 : Nat} {lo : Lo} {st : List Value} {Q : Int → Hp → Prop} {cs : String} {idx : Nat} (M : MOK k2 0) (hl : Cond.methodLink cs idx k2.1 ∈ wT) (hs : Cond.static k2.1 ∈ wT) (hd : decode k.2.1 pc = .ok (.invokestatic idx, 3)) (hp : pc + 3 = pc2) (he : k.1.cls = cs) (hd2 : d2 + 1 ≤ d) (hm : k2.2.2.1 ≤ 40) (hst : (st.map fun v => v.category).sum ≤ 8) (hr : ∀ x, rv k2 x = some (vi x)) (kk : CJ d2 k2 [] h (fun x h' => XJ sc d k h' pc2 lo (vi x :: st) Q)) : XJ sc d k h pc lo (st) Q := by
  subst hp
  have e : (fun x h' => XJ sc d k h' (pc + 3) lo ((rv k2 x).toList ++ st) Q) = (fun x h' => XJ sc d k h' (pc + 3) lo (vi x :: st) Q) := by
    funext x h'
    rw [hr x]
    rfl
  refine xg_callS (as := []) M hl hs hd he rfl hd2 hm hst ?_
  rw [e]
  exact kk
theorem xj_N0I {sc : Option (Nat × (Int → Int))} {d d2 : Nat} {k k2 : MI} {h : Hp} {pc pc2 : Nat} {lo : Lo} {st : List Value} {Q : Int → Hp → Prop} {cs host : String} {idx : Nat} (M : MOK k2 0) (hl : (cs, idx, k2.1, host) ∈ nestL) (hs : Cond.static k2.1 ∈ wT) (hd : decode k.2.1 pc = .ok (.invokestatic idx, 3)) (hp : pc + 3 = pc2) (he : k.1.cls = cs) (hd2 : d2 + 1 ≤ d) (hm : k2.2.2.1 ≤ 40) (hst : (st.map fun v => v.category).sum ≤ 8) (hr : ∀ x, rv k2 x = some (vi x)) (kk : CJ d2 k2 [] h (fun x h' => XJ sc d k h' pc2 lo (vi x :: st) Q)) : XJ sc d k h pc lo (st) Q := by
  subst hp
  have e : (fun x h' => XJ sc d k h' (pc + 3) lo ((rv k2 x).toList ++ st) Q) = (fun x h' => XJ sc d k h' (pc + 3) lo (vi x :: st) Q) := by
    funext x h'
    rw [hr x]
    rfl
  refine xg_callN (as := []) M hl hs hd he rfl hd2 hm hst ?_
  rw [e]
  exact kk
theorem xj_V0I {sc : Option (Nat × (Int → Int))} {d d2 : Nat} {k k2 : MI} {h : Hp} {pc pc2 : Nat} {lo : Lo} {st : List Value} {Q : Int → Hp → Prop} {cs Cn : String} {T : u_T} {N idx b ci : Nat} (M : MOK k2 0) (hl : Cond.methodLink cs idx k2.1 ∈ wT) (hi : Cond.instanceMethod k2.1 ∈ wT) (hse : Cond.selects Cn k2.1 k2.1 ∈ wT) (hcl : xjCl[ci]? = some (Cn, T, N)) (hkb : kd b = (0, ci)) (hd : decode k.2.1 pc = .ok (.invokevirtual idx, 3)) (hp : pc + 3 = pc2) (he : k.1.cls = cs) (hd2 : d2 + 1 ≤ d) (hm : k2.2.2.1 ≤ 40) (hst : (st.map fun v => v.category).sum ≤ 8) (hr : ∀ x, rv k2 x = some (vi x)) (kk : CJ d2 k2 [.ref b] h (fun x h' => XJ sc d k h' pc2 lo (vi x :: st) Q)) : XJ sc d k h pc lo (.ref b :: st) Q := by
  subst hp
  have e : (fun x h' => XJ sc d k h' (pc + 3) lo ((rv k2 x).toList ++ st) Q) = (fun x h' => XJ sc d k h' (pc + 3) lo (vi x :: st) Q) := by
    funext x h'
    rw [hr x]
    rfl
  refine xg_callV (as := []) M hl hi hse hcl hkb hd he rfl hd2 hm hst ?_
  rw [e]
  exact kk
theorem xj_S0J {sc : Option (Nat × (Int → Int))} {d d2 : Nat} {k k2 : MI} {h : Hp} {pc pc2 : Nat} {lo : Lo} {st : List Value} {Q : Int → Hp → Prop} {cs : String} {idx : Nat} (M : MOK k2 0) (hl : Cond.methodLink cs idx k2.1 ∈ wT) (hs : Cond.static k2.1 ∈ wT) (hd : decode k.2.1 pc = .ok (.invokestatic idx, 3)) (hp : pc + 3 = pc2) (he : k.1.cls = cs) (hd2 : d2 + 1 ≤ d) (hm : k2.2.2.1 ≤ 40) (hst : (st.map fun v => v.category).sum ≤ 8) (hr : ∀ x, rv k2 x = some (vl x)) (kk : CJ d2 k2 [] h (fun x h' => XJ sc d k h' pc2 lo (vl x :: st) Q)) : XJ sc d k h pc lo (st) Q := by
  subst hp
  have e : (fun x h' => XJ sc d k h' (pc + 3) lo ((rv k2 x).toList ++ st) Q) = (fun x h' => XJ sc d k h' (pc + 3) lo (vl x :: st) Q) := by
    funext x h'
    rw [hr x]
    rfl
  refine xg_callS (as := []) M hl hs hd he rfl hd2 hm hst ?_
  rw [e]
  exact kk
theorem xj_N0J {sc : Option (Nat × (Int → Int))} {d d2 : Nat} {k k2 : MI} {h : Hp} {pc pc2 : Nat} {lo : Lo} {st : List Value} {Q : Int → Hp → Prop} {cs host : String} {idx : Nat} (M : MOK k2 0) (hl : (cs, idx, k2.1, host) ∈ nestL) (hs : Cond.static k2.1 ∈ wT) (hd : decode k.2.1 pc = .ok (.invokestatic idx, 3)) (hp : pc + 3 = pc2) (he : k.1.cls = cs) (hd2 : d2 + 1 ≤ d) (hm : k2.2.2.1 ≤ 40) (hst : (st.map fun v => v.category).sum ≤ 8) (hr : ∀ x, rv k2 x = some (vl x)) (kk : CJ d2 k2 [] h (fun x h' => XJ sc d k h' pc2 lo (vl x :: st) Q)) : XJ sc d k h pc lo (st) Q := by
  subst hp
  have e : (fun x h' => XJ sc d k h' (pc + 3) lo ((rv k2 x).toList ++ st) Q) = (fun x h' => XJ sc d k h' (pc + 3) lo (vl x :: st) Q) := by
    funext x h'
    rw [hr x]
    rfl
  refine xg_callN (as := []) M hl hs hd he rfl hd2 hm hst ?_
  rw [e]
  exact kk
theorem xj_V0J {sc : Option (Nat × (Int → Int))} {d d2 : Nat} {k k2 : MI} {h : Hp} {pc pc2 : Nat} {lo : Lo} {st : List Value} {Q : Int → Hp → Prop} {cs Cn : String} {T : u_T} {N idx b ci : Nat} (M : MOK k2 0) (hl : Cond.methodLink cs idx k2.1 ∈ wT) (hi : Cond.instanceMethod k2.1 ∈ wT) (hse : Cond.selects Cn k2.1 k2.1 ∈ wT) (hcl : xjCl[ci]? = some (Cn, T, N)) (hkb : kd b = (0, ci)) (hd : decode k.2.1 pc = .ok (.invokevirtual idx, 3)) (hp : pc + 3 = pc2) (he : k.1.cls = cs) (hd2 : d2 + 1 ≤ d) (hm : k2.2.2.1 ≤ 40) (hst : (st.map fun v => v.category).sum ≤ 8) (hr : ∀ x, rv k2 x = some (vl x)) (kk : CJ d2 k2 [.ref b] h (fun x h' => XJ sc d k h' pc2 lo (vl x :: st) Q)) : XJ sc d k h pc lo (.ref b :: st) Q := by
  subst hp
  have e : (fun x h' => XJ sc d k h' (pc + 3) lo ((rv k2 x).toList ++ st) Q) = (fun x h' => XJ sc d k h' (pc + 3) lo (vl x :: st) Q) := by
    funext x h'
    rw [hr x]
    rfl
  refine xg_callV (as := []) M hl hi hse hcl hkb hd he rfl hd2 hm hst ?_
  rw [e]
  exact kk
theorem xj_S0V {sc : Option (Nat × (Int → Int))} {d d2 : Nat} {k k2 : MI} {h : Hp} {pc pc2 : Nat} {lo : Lo} {st : List Value} {Q : Int → Hp → Prop} {cs : String} {idx : Nat} (M : MOK k2 0) (hl : Cond.methodLink cs idx k2.1 ∈ wT) (hs : Cond.static k2.1 ∈ wT) (hd : decode k.2.1 pc = .ok (.invokestatic idx, 3)) (hp : pc + 3 = pc2) (he : k.1.cls = cs) (hd2 : d2 + 1 ≤ d) (hm : k2.2.2.1 ≤ 40) (hst : (st.map fun v => v.category).sum ≤ 8) (hr : ∀ x, rv k2 x = none) (kk : CJ d2 k2 [] h (fun x h' => XJ sc d k h' pc2 lo (st) Q)) : XJ sc d k h pc lo (st) Q := by
  subst hp
  have e : (fun x h' => XJ sc d k h' (pc + 3) lo ((rv k2 x).toList ++ st) Q) = (fun x h' => XJ sc d k h' (pc + 3) lo (st) Q) := by
    funext x h'
    rw [hr x]
    rfl
  refine xg_callS (as := []) M hl hs hd he rfl hd2 hm hst ?_
  rw [e]
  exact kk
theorem xj_N0V {sc : Option (Nat × (Int → Int))} {d d2 : Nat} {k k2 : MI} {h : Hp} {pc pc2 : Nat} {lo : Lo} {st : List Value} {Q : Int → Hp → Prop} {cs host : String} {idx : Nat} (M : MOK k2 0) (hl : (cs, idx, k2.1, host) ∈ nestL) (hs : Cond.static k2.1 ∈ wT) (hd : decode k.2.1 pc = .ok (.invokestatic idx, 3)) (hp : pc + 3 = pc2) (he : k.1.cls = cs) (hd2 : d2 + 1 ≤ d) (hm : k2.2.2.1 ≤ 40) (hst : (st.map fun v => v.category).sum ≤ 8) (hr : ∀ x, rv k2 x = none) (kk : CJ d2 k2 [] h (fun x h' => XJ sc d k h' pc2 lo (st) Q)) : XJ sc d k h pc lo (st) Q := by
  subst hp
  have e : (fun x h' => XJ sc d k h' (pc + 3) lo ((rv k2 x).toList ++ st) Q) = (fun x h' => XJ sc d k h' (pc + 3) lo (st) Q) := by
    funext x h'
    rw [hr x]
    rfl
  refine xg_callN (as := []) M hl hs hd he rfl hd2 hm hst ?_
  rw [e]
  exact kk
theorem xj_V0V {sc : Option (Nat × (Int → Int))} {d d2 : Nat} {k k2 : MI} {h : Hp} {pc pc2 : Nat} {lo : Lo} {st : List Value} {Q : Int → Hp → Prop} {cs Cn : String} {T : u_T} {N idx b ci : Nat} (M : MOK k2 0) (hl : Cond.methodLink cs idx k2.1 ∈ wT) (hi : Cond.instanceMethod k2.1 ∈ wT) (hse : Cond.selects Cn k2.1 k2.1 ∈ wT) (hcl : xjCl[ci]? = some (Cn, T, N)) (hkb : kd b = (0, ci)) (hd : decode k.2.1 pc = .ok (.invokevirtual idx, 3)) (hp : pc + 3 = pc2) (he : k.1.cls = cs) (hd2 : d2 + 1 ≤ d) (hm : k2.2.2.1 ≤ 40) (hst : (st.map fun v => v.category).sum ≤ 8) (hr : ∀ x, rv k2 x = none) (kk : CJ d2 k2 [.ref b] h (fun x h' => XJ sc d k h' pc2 lo (st) Q)) : XJ sc d k h pc lo (.ref b :: st) Q := by
  subst hp
  have e : (fun x h' => XJ sc d k h' (pc + 3) lo ((rv k2 x).toList ++ st) Q) = (fun x h' => XJ sc d k h' (pc + 3) lo (st) Q) := by
    funext x h'
    rw [hr x]
    rfl
  refine xg_callV (as := []) M hl hi hse hcl hkb hd he rfl hd2 hm hst ?_
  rw [e]
  exact kk
theorem xj_S1I {sc : Option (Nat × (Int → Int))} {d d2 : Nat} {k k2 : MI} {h : Hp} {pc pc2 : Nat} {lo : Lo} {st : List Value} {Q : Int → Hp → Prop} {a1 : Value} {cs : String} {idx : Nat} (M : MOK k2 1) (hl : Cond.methodLink cs idx k2.1 ∈ wT) (hs : Cond.static k2.1 ∈ wT) (hd : decode k.2.1 pc = .ok (.invokestatic idx, 3)) (hp : pc + 3 = pc2) (he : k.1.cls = cs) (hd2 : d2 + 1 ≤ d) (hm : k2.2.2.1 ≤ 40) (hst : (st.map fun v => v.category).sum ≤ 8) (hr : ∀ x, rv k2 x = some (vi x)) (kk : CJ d2 k2 [a1] h (fun x h' => XJ sc d k h' pc2 lo (vi x :: st) Q)) : XJ sc d k h pc lo (a1 :: st) Q := by
  subst hp
  have e : (fun x h' => XJ sc d k h' (pc + 3) lo ((rv k2 x).toList ++ st) Q) = (fun x h' => XJ sc d k h' (pc + 3) lo (vi x :: st) Q) := by
    funext x h'
    rw [hr x]
    rfl
  refine xg_callS (as := [a1]) M hl hs hd he rfl hd2 hm hst ?_
  rw [e]
  exact kk
theorem xj_N1I {sc : Option (Nat × (Int → Int))} {d d2 : Nat} {k k2 : MI} {h : Hp} {pc pc2 : Nat} {lo : Lo} {st : List Value} {Q : Int → Hp → Prop} {a1 : Value} {cs host : String} {idx : Nat} (M : MOK k2 1) (hl : (cs, idx, k2.1, host) ∈ nestL) (hs : Cond.static k2.1 ∈ wT) (hd : decode k.2.1 pc = .ok (.invokestatic idx, 3)) (hp : pc + 3 = pc2) (he : k.1.cls = cs) (hd2 : d2 + 1 ≤ d) (hm : k2.2.2.1 ≤ 40) (hst : (st.map fun v => v.category).sum ≤ 8) (hr : ∀ x, rv k2 x = some (vi x)) (kk : CJ d2 k2 [a1] h (fun x h' => XJ sc d k h' pc2 lo (vi x :: st) Q)) : XJ sc d k h pc lo (a1 :: st) Q := by
  subst hp
  have e : (fun x h' => XJ sc d k h' (pc + 3) lo ((rv k2 x).toList ++ st) Q) = (fun x h' => XJ sc d k h' (pc + 3) lo (vi x :: st) Q) := by
    funext x h'
    rw [hr x]
    rfl
  refine xg_callN (as := [a1]) M hl hs hd he rfl hd2 hm hst ?_
  rw [e]
  exact kk
theorem xj_V1I {sc : Option (Nat × (Int → Int))} {d d2 : Nat} {k k2 : MI} {h : Hp} {pc pc2 : Nat} {lo : Lo} {st : List Value} {Q : Int → Hp → Prop} {a1 : Value} {cs Cn : String} {T : u_T} {N idx b ci : Nat} (M : MOK k2 1) (hl : Cond.methodLink cs idx k2.1 ∈ wT) (hi : Cond.instanceMethod k2.1 ∈ wT) (hse : Cond.selects Cn k2.1 k2.1 ∈ wT) (hcl : xjCl[ci]? = some (Cn, T, N)) (hkb : kd b = (0, ci)) (hd : decode k.2.1 pc = .ok (.invokevirtual idx, 3)) (hp : pc + 3 = pc2) (he : k.1.cls = cs) (hd2 : d2 + 1 ≤ d) (hm : k2.2.2.1 ≤ 40) (hst : (st.map fun v => v.category).sum ≤ 8) (hr : ∀ x, rv k2 x = some (vi x)) (kk : CJ d2 k2 [.ref b, a1] h (fun x h' => XJ sc d k h' pc2 lo (vi x :: st) Q)) : XJ sc d k h pc lo (a1 :: .ref b :: st) Q := by
  subst hp
  have e : (fun x h' => XJ sc d k h' (pc + 3) lo ((rv k2 x).toList ++ st) Q) = (fun x h' => XJ sc d k h' (pc + 3) lo (vi x :: st) Q) := by
    funext x h'
    rw [hr x]
    rfl
  refine xg_callV (as := [a1]) M hl hi hse hcl hkb hd he rfl hd2 hm hst ?_
  rw [e]
  exact kk
theorem xj_S1J {sc : Option (Nat × (Int → Int))} {d d2 : Nat} {k k2 : MI} {h : Hp} {pc pc2 : Nat} {lo : Lo} {st : List Value} {Q : Int → Hp → Prop} {a1 : Value} {cs : String} {idx : Nat} (M : MOK k2 1) (hl : Cond.methodLink cs idx k2.1 ∈ wT) (hs : Cond.static k2.1 ∈ wT) (hd : decode k.2.1 pc = .ok (.invokestatic idx, 3)) (hp : pc + 3 = pc2) (he : k.1.cls = cs) (hd2 : d2 + 1 ≤ d) (hm : k2.2.2.1 ≤ 40) (hst : (st.map fun v => v.category).sum ≤ 8) (hr : ∀ x, rv k2 x = some (vl x)) (kk : CJ d2 k2 [a1] h (fun x h' => XJ sc d k h' pc2 lo (vl x :: st) Q)) : XJ sc d k h pc lo (a1 :: st) Q := by
  subst hp
  have e : (fun x h' => XJ sc d k h' (pc + 3) lo ((rv k2 x).toList ++ st) Q) = (fun x h' => XJ sc d k h' (pc + 3) lo (vl x :: st) Q) := by
    funext x h'
    rw [hr x]
    rfl
  refine xg_callS (as := [a1]) M hl hs hd he rfl hd2 hm hst ?_
  rw [e]
  exact kk
theorem xj_N1J {sc : Option (Nat × (Int → Int))} {d d2 : Nat} {k k2 : MI} {h : Hp} {pc pc2 : Nat} {lo : Lo} {st : List Value} {Q : Int → Hp → Prop} {a1 : Value} {cs host : String} {idx : Nat} (M : MOK k2 1) (hl : (cs, idx, k2.1, host) ∈ nestL) (hs : Cond.static k2.1 ∈ wT) (hd : decode k.2.1 pc = .ok (.invokestatic idx, 3)) (hp : pc + 3 = pc2) (he : k.1.cls = cs) (hd2 : d2 + 1 ≤ d) (hm : k2.2.2.1 ≤ 40) (hst : (st.map fun v => v.category).sum ≤ 8) (hr : ∀ x, rv k2 x = some (vl x)) (kk : CJ d2 k2 [a1] h (fun x h' => XJ sc d k h' pc2 lo (vl x :: st) Q)) : XJ sc d k h pc lo (a1 :: st) Q := by
  subst hp
  have e : (fun x h' => XJ sc d k h' (pc + 3) lo ((rv k2 x).toList ++ st) Q) = (fun x h' => XJ sc d k h' (pc + 3) lo (vl x :: st) Q) := by
    funext x h'
    rw [hr x]
    rfl
  refine xg_callN (as := [a1]) M hl hs hd he rfl hd2 hm hst ?_
  rw [e]
  exact kk
theorem xj_V1J {sc : Option (Nat × (Int → Int))} {d d2 : Nat} {k k2 : MI} {h : Hp} {pc pc2 : Nat} {lo : Lo} {st : List Value} {Q : Int → Hp → Prop} {a1 : Value} {cs Cn : String} {T : u_T} {N idx b ci : Nat} (M : MOK k2 1) (hl : Cond.methodLink cs idx k2.1 ∈ wT) (hi : Cond.instanceMethod k2.1 ∈ wT) (hse : Cond.selects Cn k2.1 k2.1 ∈ wT) (hcl : xjCl[ci]? = some (Cn, T, N)) (hkb : kd b = (0, ci)) (hd : decode k.2.1 pc = .ok (.invokevirtual idx, 3)) (hp : pc + 3 = pc2) (he : k.1.cls = cs) (hd2 : d2 + 1 ≤ d) (hm : k2.2.2.1 ≤ 40) (hst : (st.map fun v => v.category).sum ≤ 8) (hr : ∀ x, rv k2 x = some (vl x)) (kk : CJ d2 k2 [.ref b, a1] h (fun x h' => XJ sc d k h' pc2 lo (vl x :: st) Q)) : XJ sc d k h pc lo (a1 :: .ref b :: st) Q := by
  subst hp
  have e : (fun x h' => XJ sc d k h' (pc + 3) lo ((rv k2 x).toList ++ st) Q) = (fun x h' => XJ sc d k h' (pc + 3) lo (vl x :: st) Q) := by
    funext x h'
    rw [hr x]
    rfl
  refine xg_callV (as := [a1]) M hl hi hse hcl hkb hd he rfl hd2 hm hst ?_
  rw [e]
  exact kk
theorem xj_S1V {sc : Option (Nat × (Int → Int))} {d d2 : Nat} {k k2 : MI} {h : Hp} {pc pc2 : Nat} {lo : Lo} {st : List Value} {Q : Int → Hp → Prop} {a1 : Value} {cs : String} {idx : Nat} (M : MOK k2 1) (hl : Cond.methodLink cs idx k2.1 ∈ wT) (hs : Cond.static k2.1 ∈ wT) (hd : decode k.2.1 pc = .ok (.invokestatic idx, 3)) (hp : pc + 3 = pc2) (he : k.1.cls = cs) (hd2 : d2 + 1 ≤ d) (hm : k2.2.2.1 ≤ 40) (hst : (st.map fun v => v.category).sum ≤ 8) (hr : ∀ x, rv k2 x = none) (kk : CJ d2 k2 [a1] h (fun x h' => XJ sc d k h' pc2 lo (st) Q)) : XJ sc d k h pc lo (a1 :: st) Q := by
  subst hp
  have e : (fun x h' => XJ sc d k h' (pc + 3) lo ((rv k2 x).toList ++ st) Q) = (fun x h' => XJ sc d k h' (pc + 3) lo (st) Q) := by
    funext x h'
    rw [hr x]
    rfl
  refine xg_callS (as := [a1]) M hl hs hd he rfl hd2 hm hst ?_
  rw [e]
  exact kk
theorem xj_N1V {sc : Option (Nat × (Int → Int))} {d d2 : Nat} {k k2 : MI} {h : Hp} {pc pc2 : Nat} {lo : Lo} {st : List Value} {Q : Int → Hp → Prop} {a1 : Value} {cs host : String} {idx : Nat} (M : MOK k2 1) (hl : (cs, idx, k2.1, host) ∈ nestL) (hs : Cond.static k2.1 ∈ wT) (hd : decode k.2.1 pc = .ok (.invokestatic idx, 3)) (hp : pc + 3 = pc2) (he : k.1.cls = cs) (hd2 : d2 + 1 ≤ d) (hm : k2.2.2.1 ≤ 40) (hst : (st.map fun v => v.category).sum ≤ 8) (hr : ∀ x, rv k2 x = none) (kk : CJ d2 k2 [a1] h (fun x h' => XJ sc d k h' pc2 lo (st) Q)) : XJ sc d k h pc lo (a1 :: st) Q := by
  subst hp
  have e : (fun x h' => XJ sc d k h' (pc + 3) lo ((rv k2 x).toList ++ st) Q) = (fun x h' => XJ sc d k h' (pc + 3) lo (st) Q) := by
    funext x h'
    rw [hr x]
    rfl
  refine xg_callN (as := [a1]) M hl hs hd he rfl hd2 hm hst ?_
  rw [e]
  exact kk
theorem xj_V1V {sc : Option (Nat × (Int → Int))} {d d2 : Nat} {k k2 : MI} {h : Hp} {pc pc2 : Nat} {lo : Lo} {st : List Value} {Q : Int → Hp → Prop} {a1 : Value} {cs Cn : String} {T : u_T} {N idx b ci : Nat} (M : MOK k2 1) (hl : Cond.methodLink cs idx k2.1 ∈ wT) (hi : Cond.instanceMethod k2.1 ∈ wT) (hse : Cond.selects Cn k2.1 k2.1 ∈ wT) (hcl : xjCl[ci]? = some (Cn, T, N)) (hkb : kd b = (0, ci)) (hd : decode k.2.1 pc = .ok (.invokevirtual idx, 3)) (hp : pc + 3 = pc2) (he : k.1.cls = cs) (hd2 : d2 + 1 ≤ d) (hm : k2.2.2.1 ≤ 40) (hst : (st.map fun v => v.category).sum ≤ 8) (hr : ∀ x, rv k2 x = none) (kk : CJ d2 k2 [.ref b, a1] h (fun x h' => XJ sc d k h' pc2 lo (st) Q)) : XJ sc d k h pc lo (a1 :: .ref b :: st) Q := by
  subst hp
  have e : (fun x h' => XJ sc d k h' (pc + 3) lo ((rv k2 x).toList ++ st) Q) = (fun x h' => XJ sc d k h' (pc + 3) lo (st) Q) := by
    funext x h'
    rw [hr x]
    rfl
  refine xg_callV (as := [a1]) M hl hi hse hcl hkb hd he rfl hd2 hm hst ?_
  rw [e]
  exact kk
theorem xj_S2I {sc : Option (Nat × (Int → Int))} {d d2 : Nat} {k k2 : MI} {h : Hp} {pc pc2 : Nat} {lo : Lo} {st : List Value} {Q : Int → Hp → Prop} {a1 a2 : Value} {cs : String} {idx : Nat} (M : MOK k2 2) (hl : Cond.methodLink cs idx k2.1 ∈ wT) (hs : Cond.static k2.1 ∈ wT) (hd : decode k.2.1 pc = .ok (.invokestatic idx, 3)) (hp : pc + 3 = pc2) (he : k.1.cls = cs) (hd2 : d2 + 1 ≤ d) (hm : k2.2.2.1 ≤ 40) (hst : (st.map fun v => v.category).sum ≤ 8) (hr : ∀ x, rv k2 x = some (vi x)) (kk : CJ d2 k2 [a1, a2] h (fun x h' => XJ sc d k h' pc2 lo (vi x :: st) Q)) : XJ sc d k h pc lo (a2 :: a1 :: st) Q := by
  subst hp
  have e : (fun x h' => XJ sc d k h' (pc + 3) lo ((rv k2 x).toList ++ st) Q) = (fun x h' => XJ sc d k h' (pc + 3) lo (vi x :: st) Q) := by
    funext x h'
    rw [hr x]
    rfl
  refine xg_callS (as := [a1, a2]) M hl hs hd he rfl hd2 hm hst ?_
  rw [e]
  exact kk
theorem xj_N2I {sc : Option (Nat × (Int → Int))} {d d2 : Nat} {k k2 : MI} {h : Hp} {pc pc2 : Nat} {lo : Lo} {st : List Value} {Q : Int → Hp → Prop} {a1 a2 : Value} {cs host : String} {idx : Nat} (M : MOK k2 2) (hl : (cs, idx, k2.1, host) ∈ nestL) (hs : Cond.static k2.1 ∈ wT) (hd : decode k.2.1 pc = .ok (.invokestatic idx, 3)) (hp : pc + 3 = pc2) (he : k.1.cls = cs) (hd2 : d2 + 1 ≤ d) (hm : k2.2.2.1 ≤ 40) (hst : (st.map fun v => v.category).sum ≤ 8) (hr : ∀ x, rv k2 x = some (vi x)) (kk : CJ d2 k2 [a1, a2] h (fun x h' => XJ sc d k h' pc2 lo (vi x :: st) Q)) : XJ sc d k h pc lo (a2 :: a1 :: st) Q := by
  subst hp
  have e : (fun x h' => XJ sc d k h' (pc + 3) lo ((rv k2 x).toList ++ st) Q) = (fun x h' => XJ sc d k h' (pc + 3) lo (vi x :: st) Q) := by
    funext x h'
    rw [hr x]
    rfl
  refine xg_callN (as := [a1, a2]) M hl hs hd he rfl hd2 hm hst ?_
  rw [e]
  exact kk
theorem xj_V2I {sc : Option (Nat × (Int → Int))} {d d2 : Nat} {k k2 : MI} {h : Hp} {pc pc2 : Nat} {lo : Lo} {st : List Value} {Q : Int → Hp → Prop} {a1 a2 : Value} {cs Cn : String} {T : u_T} {N idx b ci : Nat} (M : MOK k2 2) (hl : Cond.methodLink cs idx k2.1 ∈ wT) (hi : Cond.instanceMethod k2.1 ∈ wT) (hse : Cond.selects Cn k2.1 k2.1 ∈ wT) (hcl : xjCl[ci]? = some (Cn, T, N)) (hkb : kd b = (0, ci)) (hd : decode k.2.1 pc = .ok (.invokevirtual idx, 3)) (hp : pc + 3 = pc2) (he : k.1.cls = cs) (hd2 : d2 + 1 ≤ d) (hm : k2.2.2.1 ≤ 40) (hst : (st.map fun v => v.category).sum ≤ 8) (hr : ∀ x, rv k2 x = some (vi x)) (kk : CJ d2 k2 [.ref b, a1, a2] h (fun x h' => XJ sc d k h' pc2 lo (vi x :: st) Q)) : XJ sc d k h pc lo (a2 :: a1 :: .ref b :: st) Q := by
  subst hp
  have e : (fun x h' => XJ sc d k h' (pc + 3) lo ((rv k2 x).toList ++ st) Q) = (fun x h' => XJ sc d k h' (pc + 3) lo (vi x :: st) Q) := by
    funext x h'
    rw [hr x]
    rfl
  refine xg_callV (as := [a1, a2]) M hl hi hse hcl hkb hd he rfl hd2 hm hst ?_
  rw [e]
  exact kk
theorem xj_S2J {sc : Option (Nat × (Int → Int))} {d d2 : Nat} {k k2 : MI} {h : Hp} {pc pc2 : Nat} {lo : Lo} {st : List Value} {Q : Int → Hp → Prop} {a1 a2 : Value} {cs : String} {idx : Nat} (M : MOK k2 2) (hl : Cond.methodLink cs idx k2.1 ∈ wT) (hs : Cond.static k2.1 ∈ wT) (hd : decode k.2.1 pc = .ok (.invokestatic idx, 3)) (hp : pc + 3 = pc2) (he : k.1.cls = cs) (hd2 : d2 + 1 ≤ d) (hm : k2.2.2.1 ≤ 40) (hst : (st.map fun v => v.category).sum ≤ 8) (hr : ∀ x, rv k2 x = some (vl x)) (kk : CJ d2 k2 [a1, a2] h (fun x h' => XJ sc d k h' pc2 lo (vl x :: st) Q)) : XJ sc d k h pc lo (a2 :: a1 :: st) Q := by
  subst hp
  have e : (fun x h' => XJ sc d k h' (pc + 3) lo ((rv k2 x).toList ++ st) Q) = (fun x h' => XJ sc d k h' (pc + 3) lo (vl x :: st) Q) := by
    funext x h'
    rw [hr x]
    rfl
  refine xg_callS (as := [a1, a2]) M hl hs hd he rfl hd2 hm hst ?_
  rw [e]
  exact kk
theorem xj_N2J {sc : Option (Nat × (Int → Int))} {d d2 : Nat} {k k2 : MI} {h : Hp} {pc pc2 : Nat} {lo : Lo} {st : List Value} {Q : Int → Hp → Prop} {a1 a2 : Value} {cs host : String} {idx : Nat} (M : MOK k2 2) (hl : (cs, idx, k2.1, host) ∈ nestL) (hs : Cond.static k2.1 ∈ wT) (hd : decode k.2.1 pc = .ok (.invokestatic idx, 3)) (hp : pc + 3 = pc2) (he : k.1.cls = cs) (hd2 : d2 + 1 ≤ d) (hm : k2.2.2.1 ≤ 40) (hst : (st.map fun v => v.category).sum ≤ 8) (hr : ∀ x, rv k2 x = some (vl x)) (kk : CJ d2 k2 [a1, a2] h (fun x h' => XJ sc d k h' pc2 lo (vl x :: st) Q)) : XJ sc d k h pc lo (a2 :: a1 :: st) Q := by
  subst hp
  have e : (fun x h' => XJ sc d k h' (pc + 3) lo ((rv k2 x).toList ++ st) Q) = (fun x h' => XJ sc d k h' (pc + 3) lo (vl x :: st) Q) := by
    funext x h'
    rw [hr x]
    rfl
  refine xg_callN (as := [a1, a2]) M hl hs hd he rfl hd2 hm hst ?_
  rw [e]
  exact kk
theorem xj_V2J {sc : Option (Nat × (Int → Int))} {d d2 : Nat} {k k2 : MI} {h : Hp} {pc pc2 : Nat} {lo : Lo} {st : List Value} {Q : Int → Hp → Prop} {a1 a2 : Value} {cs Cn : String} {T : u_T} {N idx b ci : Nat} (M : MOK k2 2) (hl : Cond.methodLink cs idx k2.1 ∈ wT) (hi : Cond.instanceMethod k2.1 ∈ wT) (hse : Cond.selects Cn k2.1 k2.1 ∈ wT) (hcl : xjCl[ci]? = some (Cn, T, N)) (hkb : kd b = (0, ci)) (hd : decode k.2.1 pc = .ok (.invokevirtual idx, 3)) (hp : pc + 3 = pc2) (he : k.1.cls = cs) (hd2 : d2 + 1 ≤ d) (hm : k2.2.2.1 ≤ 40) (hst : (st.map fun v => v.category).sum ≤ 8) (hr : ∀ x, rv k2 x = some (vl x)) (kk : CJ d2 k2 [.ref b, a1, a2] h (fun x h' => XJ sc d k h' pc2 lo (vl x :: st) Q)) : XJ sc d k h pc lo (a2 :: a1 :: .ref b :: st) Q := by
  subst hp
  have e : (fun x h' => XJ sc d k h' (pc + 3) lo ((rv k2 x).toList ++ st) Q) = (fun x h' => XJ sc d k h' (pc + 3) lo (vl x :: st) Q) := by
    funext x h'
    rw [hr x]
    rfl
  refine xg_callV (as := [a1, a2]) M hl hi hse hcl hkb hd he rfl hd2 hm hst ?_
  rw [e]
  exact kk
theorem xj_S2V {sc : Option (Nat × (Int → Int))} {d d2 : Nat} {k k2 : MI} {h : Hp} {pc pc2 : Nat} {lo : Lo} {st : List Value} {Q : Int → Hp → Prop} {a1 a2 : Value} {cs : String} {idx : Nat} (M : MOK k2 2) (hl : Cond.methodLink cs idx k2.1 ∈ wT) (hs : Cond.static k2.1 ∈ wT) (hd : decode k.2.1 pc = .ok (.invokestatic idx, 3)) (hp : pc + 3 = pc2) (he : k.1.cls = cs) (hd2 : d2 + 1 ≤ d) (hm : k2.2.2.1 ≤ 40) (hst : (st.map fun v => v.category).sum ≤ 8) (hr : ∀ x, rv k2 x = none) (kk : CJ d2 k2 [a1, a2] h (fun x h' => XJ sc d k h' pc2 lo (st) Q)) : XJ sc d k h pc lo (a2 :: a1 :: st) Q := by
  subst hp
  have e : (fun x h' => XJ sc d k h' (pc + 3) lo ((rv k2 x).toList ++ st) Q) = (fun x h' => XJ sc d k h' (pc + 3) lo (st) Q) := by
    funext x h'
    rw [hr x]
    rfl
  refine xg_callS (as := [a1, a2]) M hl hs hd he rfl hd2 hm hst ?_
  rw [e]
  exact kk
theorem xj_N2V {sc : Option (Nat × (Int → Int))} {d d2 : Nat} {k k2 : MI} {h : Hp} {pc pc2 : Nat} {lo : Lo} {st : List Value} {Q : Int → Hp → Prop} {a1 a2 : Value} {cs host : String} {idx : Nat} (M : MOK k2 2) (hl : (cs, idx, k2.1, host) ∈ nestL) (hs : Cond.static k2.1 ∈ wT) (hd : decode k.2.1 pc = .ok (.invokestatic idx, 3)) (hp : pc + 3 = pc2) (he : k.1.cls = cs) (hd2 : d2 + 1 ≤ d) (hm : k2.2.2.1 ≤ 40) (hst : (st.map fun v => v.category).sum ≤ 8) (hr : ∀ x, rv k2 x = none) (kk : CJ d2 k2 [a1, a2] h (fun x h' => XJ sc d k h' pc2 lo (st) Q)) : XJ sc d k h pc lo (a2 :: a1 :: st) Q := by
  subst hp
  have e : (fun x h' => XJ sc d k h' (pc + 3) lo ((rv k2 x).toList ++ st) Q) = (fun x h' => XJ sc d k h' (pc + 3) lo (st) Q) := by
    funext x h'
    rw [hr x]
    rfl
  refine xg_callN (as := [a1, a2]) M hl hs hd he rfl hd2 hm hst ?_
  rw [e]
  exact kk
theorem xj_V2V {sc : Option (Nat × (Int → Int))} {d d2 : Nat} {k k2 : MI} {h : Hp} {pc pc2 : Nat} {lo : Lo} {st : List Value} {Q : Int → Hp → Prop} {a1 a2 : Value} {cs Cn : String} {T : u_T} {N idx b ci : Nat} (M : MOK k2 2) (hl : Cond.methodLink cs idx k2.1 ∈ wT) (hi : Cond.instanceMethod k2.1 ∈ wT) (hse : Cond.selects Cn k2.1 k2.1 ∈ wT) (hcl : xjCl[ci]? = some (Cn, T, N)) (hkb : kd b = (0, ci)) (hd : decode k.2.1 pc = .ok (.invokevirtual idx, 3)) (hp : pc + 3 = pc2) (he : k.1.cls = cs) (hd2 : d2 + 1 ≤ d) (hm : k2.2.2.1 ≤ 40) (hst : (st.map fun v => v.category).sum ≤ 8) (hr : ∀ x, rv k2 x = none) (kk : CJ d2 k2 [.ref b, a1, a2] h (fun x h' => XJ sc d k h' pc2 lo (st) Q)) : XJ sc d k h pc lo (a2 :: a1 :: .ref b :: st) Q := by
  subst hp
  have e : (fun x h' => XJ sc d k h' (pc + 3) lo ((rv k2 x).toList ++ st) Q) = (fun x h' => XJ sc d k h' (pc + 3) lo (st) Q) := by
    funext x h'
    rw [hr x]
    rfl
  refine xg_callV (as := [a1, a2]) M hl hi hse hcl hkb hd he rfl hd2 hm hst ?_
  rw [e]
  exact kk
theorem xj_S3I {sc : Option (Nat × (Int → Int))} {d d2 : Nat} {k k2 : MI} {h : Hp} {pc pc2 : Nat} {lo : Lo} {st : List Value} {Q : Int → Hp → Prop} {a1 a2 a3 : Value} {cs : String} {idx : Nat} (M : MOK k2 3) (hl : Cond.methodLink cs idx k2.1 ∈ wT) (hs : Cond.static k2.1 ∈ wT) (hd : decode k.2.1 pc = .ok (.invokestatic idx, 3)) (hp : pc + 3 = pc2) (he : k.1.cls = cs) (hd2 : d2 + 1 ≤ d) (hm : k2.2.2.1 ≤ 40) (hst : (st.map fun v => v.category).sum ≤ 8) (hr : ∀ x, rv k2 x = some (vi x)) (kk : CJ d2 k2 [a1, a2, a3] h (fun x h' => XJ sc d k h' pc2 lo (vi x :: st) Q)) : XJ sc d k h pc lo (a3 :: a2 :: a1 :: st) Q := by
  subst hp
  have e : (fun x h' => XJ sc d k h' (pc + 3) lo ((rv k2 x).toList ++ st) Q) = (fun x h' => XJ sc d k h' (pc + 3) lo (vi x :: st) Q) := by
    funext x h'
    rw [hr x]
    rfl
  refine xg_callS (as := [a1, a2, a3]) M hl hs hd he rfl hd2 hm hst ?_
  rw [e]
  exact kk
theorem xj_N3I {sc : Option (Nat × (Int → Int))} {d d2 : Nat} {k k2 : MI} {h : Hp} {pc pc2 : Nat} {lo : Lo} {st : List Value} {Q : Int → Hp → Prop} {a1 a2 a3 : Value} {cs host : String} {idx : Nat} (M : MOK k2 3) (hl : (cs, idx, k2.1, host) ∈ nestL) (hs : Cond.static k2.1 ∈ wT) (hd : decode k.2.1 pc = .ok (.invokestatic idx, 3)) (hp : pc + 3 = pc2) (he : k.1.cls = cs) (hd2 : d2 + 1 ≤ d) (hm : k2.2.2.1 ≤ 40) (hst : (st.map fun v => v.category).sum ≤ 8) (hr : ∀ x, rv k2 x = some (vi x)) (kk : CJ d2 k2 [a1, a2, a3] h (fun x h' => XJ sc d k h' pc2 lo (vi x :: st) Q)) : XJ sc d k h pc lo (a3 :: a2 :: a1 :: st) Q := by
  subst hp
  have e : (fun x h' => XJ sc d k h' (pc + 3) lo ((rv k2 x).toList ++ st) Q) = (fun x h' => XJ sc d k h' (pc + 3) lo (vi x :: st) Q) := by
    funext x h'
    rw [hr x]
    rfl
  refine xg_callN (as := [a1, a2, a3]) M hl hs hd he rfl hd2 hm hst ?_
  rw [e]
  exact kk
theorem xj_V3I {sc : Option (Nat × (Int → Int))} {d d2 : Nat} {k k2 : MI} {h : Hp} {pc pc2 : Nat} {lo : Lo} {st : List Value} {Q : Int → Hp → Prop} {a1 a2 a3 : Value} {cs Cn : String} {T : u_T} {N idx b ci : Nat} (M : MOK k2 3) (hl : Cond.methodLink cs idx k2.1 ∈ wT) (hi : Cond.instanceMethod k2.1 ∈ wT) (hse : Cond.selects Cn k2.1 k2.1 ∈ wT) (hcl : xjCl[ci]? = some (Cn, T, N)) (hkb : kd b = (0, ci)) (hd : decode k.2.1 pc = .ok (.invokevirtual idx, 3)) (hp : pc + 3 = pc2) (he : k.1.cls = cs) (hd2 : d2 + 1 ≤ d) (hm : k2.2.2.1 ≤ 40) (hst : (st.map fun v => v.category).sum ≤ 8) (hr : ∀ x, rv k2 x = some (vi x)) (kk : CJ d2 k2 [.ref b, a1, a2, a3] h (fun x h' => XJ sc d k h' pc2 lo (vi x :: st) Q)) : XJ sc d k h pc lo (a3 :: a2 :: a1 :: .ref b :: st) Q := by
  subst hp
  have e : (fun x h' => XJ sc d k h' (pc + 3) lo ((rv k2 x).toList ++ st) Q) = (fun x h' => XJ sc d k h' (pc + 3) lo (vi x :: st) Q) := by
    funext x h'
    rw [hr x]
    rfl
  refine xg_callV (as := [a1, a2, a3]) M hl hi hse hcl hkb hd he rfl hd2 hm hst ?_
  rw [e]
  exact kk
theorem xj_S3J {sc : Option (Nat × (Int → Int))} {d d2 : Nat} {k k2 : MI} {h : Hp} {pc pc2 : Nat} {lo : Lo} {st : List Value} {Q : Int → Hp → Prop} {a1 a2 a3 : Value} {cs : String} {idx : Nat} (M : MOK k2 3) (hl : Cond.methodLink cs idx k2.1 ∈ wT) (hs : Cond.static k2.1 ∈ wT) (hd : decode k.2.1 pc = .ok (.invokestatic idx, 3)) (hp : pc + 3 = pc2) (he : k.1.cls = cs) (hd2 : d2 + 1 ≤ d) (hm : k2.2.2.1 ≤ 40) (hst : (st.map fun v => v.category).sum ≤ 8) (hr : ∀ x, rv k2 x = some (vl x)) (kk : CJ d2 k2 [a1, a2, a3] h (fun x h' => XJ sc d k h' pc2 lo (vl x :: st) Q)) : XJ sc d k h pc lo (a3 :: a2 :: a1 :: st) Q := by
  subst hp
  have e : (fun x h' => XJ sc d k h' (pc + 3) lo ((rv k2 x).toList ++ st) Q) = (fun x h' => XJ sc d k h' (pc + 3) lo (vl x :: st) Q) := by
    funext x h'
    rw [hr x]
    rfl
  refine xg_callS (as := [a1, a2, a3]) M hl hs hd he rfl hd2 hm hst ?_
  rw [e]
  exact kk
theorem xj_N3J {sc : Option (Nat × (Int → Int))} {d d2 : Nat} {k k2 : MI} {h : Hp} {pc pc2 : Nat} {lo : Lo} {st : List Value} {Q : Int → Hp → Prop} {a1 a2 a3 : Value} {cs host : String} {idx : Nat} (M : MOK k2 3) (hl : (cs, idx, k2.1, host) ∈ nestL) (hs : Cond.static k2.1 ∈ wT) (hd : decode k.2.1 pc = .ok (.invokestatic idx, 3)) (hp : pc + 3 = pc2) (he : k.1.cls = cs) (hd2 : d2 + 1 ≤ d) (hm : k2.2.2.1 ≤ 40) (hst : (st.map fun v => v.category).sum ≤ 8) (hr : ∀ x, rv k2 x = some (vl x)) (kk : CJ d2 k2 [a1, a2, a3] h (fun x h' => XJ sc d k h' pc2 lo (vl x :: st) Q)) : XJ sc d k h pc lo (a3 :: a2 :: a1 :: st) Q := by
  subst hp
  have e : (fun x h' => XJ sc d k h' (pc + 3) lo ((rv k2 x).toList ++ st) Q) = (fun x h' => XJ sc d k h' (pc + 3) lo (vl x :: st) Q) := by
    funext x h'
    rw [hr x]
    rfl
  refine xg_callN (as := [a1, a2, a3]) M hl hs hd he rfl hd2 hm hst ?_
  rw [e]
  exact kk
theorem xj_V3J {sc : Option (Nat × (Int → Int))} {d d2 : Nat} {k k2 : MI} {h : Hp} {pc pc2 : Nat} {lo : Lo} {st : List Value} {Q : Int → Hp → Prop} {a1 a2 a3 : Value} {cs Cn : String} {T : u_T} {N idx b ci : Nat} (M : MOK k2 3) (hl : Cond.methodLink cs idx k2.1 ∈ wT) (hi : Cond.instanceMethod k2.1 ∈ wT) (hse : Cond.selects Cn k2.1 k2.1 ∈ wT) (hcl : xjCl[ci]? = some (Cn, T, N)) (hkb : kd b = (0, ci)) (hd : decode k.2.1 pc = .ok (.invokevirtual idx, 3)) (hp : pc + 3 = pc2) (he : k.1.cls = cs) (hd2 : d2 + 1 ≤ d) (hm : k2.2.2.1 ≤ 40) (hst : (st.map fun v => v.category).sum ≤ 8) (hr : ∀ x, rv k2 x = some (vl x)) (kk : CJ d2 k2 [.ref b, a1, a2, a3] h (fun x h' => XJ sc d k h' pc2 lo (vl x :: st) Q)) : XJ sc d k h pc lo (a3 :: a2 :: a1 :: .ref b :: st) Q := by
  subst hp
  have e : (fun x h' => XJ sc d k h' (pc + 3) lo ((rv k2 x).toList ++ st) Q) = (fun x h' => XJ sc d k h' (pc + 3) lo (vl x :: st) Q) := by
    funext x h'
    rw [hr x]
    rfl
  refine xg_callV (as := [a1, a2, a3]) M hl hi hse hcl hkb hd he rfl hd2 hm hst ?_
  rw [e]
  exact kk
theorem xj_S3V {sc : Option (Nat × (Int → Int))} {d d2 : Nat} {k k2 : MI} {h : Hp} {pc pc2 : Nat} {lo : Lo} {st : List Value} {Q : Int → Hp → Prop} {a1 a2 a3 : Value} {cs : String} {idx : Nat} (M : MOK k2 3) (hl : Cond.methodLink cs idx k2.1 ∈ wT) (hs : Cond.static k2.1 ∈ wT) (hd : decode k.2.1 pc = .ok (.invokestatic idx, 3)) (hp : pc + 3 = pc2) (he : k.1.cls = cs) (hd2 : d2 + 1 ≤ d) (hm : k2.2.2.1 ≤ 40) (hst : (st.map fun v => v.category).sum ≤ 8) (hr : ∀ x, rv k2 x = none) (kk : CJ d2 k2 [a1, a2, a3] h (fun x h' => XJ sc d k h' pc2 lo (st) Q)) : XJ sc d k h pc lo (a3 :: a2 :: a1 :: st) Q := by
  subst hp
  have e : (fun x h' => XJ sc d k h' (pc + 3) lo ((rv k2 x).toList ++ st) Q) = (fun x h' => XJ sc d k h' (pc + 3) lo (st) Q) := by
    funext x h'
    rw [hr x]
    rfl
  refine xg_callS (as := [a1, a2, a3]) M hl hs hd he rfl hd2 hm hst ?_
  rw [e]
  exact kk
theorem xj_N3V {sc : Option (Nat × (Int → Int))} {d d2 : Nat} {k k2 : MI} {h : Hp} {pc pc2 : Nat} {lo : Lo} {st : List Value} {Q : Int → Hp → Prop} {a1 a2 a3 : Value} {cs host : String} {idx : Nat} (M : MOK k2 3) (hl : (cs, idx, k2.1, host) ∈ nestL) (hs : Cond.static k2.1 ∈ wT) (hd : decode k.2.1 pc = .ok (.invokestatic idx, 3)) (hp : pc + 3 = pc2) (he : k.1.cls = cs) (hd2 : d2 + 1 ≤ d) (hm : k2.2.2.1 ≤ 40) (hst : (st.map fun v => v.category).sum ≤ 8) (hr : ∀ x, rv k2 x = none) (kk : CJ d2 k2 [a1, a2, a3] h (fun x h' => XJ sc d k h' pc2 lo (st) Q)) : XJ sc d k h pc lo (a3 :: a2 :: a1 :: st) Q := by
  subst hp
  have e : (fun x h' => XJ sc d k h' (pc + 3) lo ((rv k2 x).toList ++ st) Q) = (fun x h' => XJ sc d k h' (pc + 3) lo (st) Q) := by
    funext x h'
    rw [hr x]
    rfl
  refine xg_callN (as := [a1, a2, a3]) M hl hs hd he rfl hd2 hm hst ?_
  rw [e]
  exact kk
theorem xj_V3V {sc : Option (Nat × (Int → Int))} {d d2 : Nat} {k k2 : MI} {h : Hp} {pc pc2 : Nat} {lo : Lo} {st : List Value} {Q : Int → Hp → Prop} {a1 a2 a3 : Value} {cs Cn : String} {T : u_T} {N idx b ci : Nat} (M : MOK k2 3) (hl : Cond.methodLink cs idx k2.1 ∈ wT) (hi : Cond.instanceMethod k2.1 ∈ wT) (hse : Cond.selects Cn k2.1 k2.1 ∈ wT) (hcl : xjCl[ci]? = some (Cn, T, N)) (hkb : kd b = (0, ci)) (hd : decode k.2.1 pc = .ok (.invokevirtual idx, 3)) (hp : pc + 3 = pc2) (he : k.1.cls = cs) (hd2 : d2 + 1 ≤ d) (hm : k2.2.2.1 ≤ 40) (hst : (st.map fun v => v.category).sum ≤ 8) (hr : ∀ x, rv k2 x = none) (kk : CJ d2 k2 [.ref b, a1, a2, a3] h (fun x h' => XJ sc d k h' pc2 lo (st) Q)) : XJ sc d k h pc lo (a3 :: a2 :: a1 :: .ref b :: st) Q := by
  subst hp
  have e : (fun x h' => XJ sc d k h' (pc + 3) lo ((rv k2 x).toList ++ st) Q) = (fun x h' => XJ sc d k h' (pc + 3) lo (st) Q) := by
    funext x h'
    rw [hr x]
    rfl
  refine xg_callV (as := [a1, a2, a3]) M hl hi hse hcl hkb hd he rfl hd2 hm hst ?_
  rw [e]
  exact kk
theorem xj_S4I {sc : Option (Nat × (Int → Int))} {d d2 : Nat} {k k2 : MI} {h : Hp} {pc pc2 : Nat} {lo : Lo} {st : List Value} {Q : Int → Hp → Prop} {a1 a2 a3 a4 : Value} {cs : String} {idx : Nat} (M : MOK k2 4) (hl : Cond.methodLink cs idx k2.1 ∈ wT) (hs : Cond.static k2.1 ∈ wT) (hd : decode k.2.1 pc = .ok (.invokestatic idx, 3)) (hp : pc + 3 = pc2) (he : k.1.cls = cs) (hd2 : d2 + 1 ≤ d) (hm : k2.2.2.1 ≤ 40) (hst : (st.map fun v => v.category).sum ≤ 8) (hr : ∀ x, rv k2 x = some (vi x)) (kk : CJ d2 k2 [a1, a2, a3, a4] h (fun x h' => XJ sc d k h' pc2 lo (vi x :: st) Q)) : XJ sc d k h pc lo (a4 :: a3 :: a2 :: a1 :: st) Q := by
  subst hp
  have e : (fun x h' => XJ sc d k h' (pc + 3) lo ((rv k2 x).toList ++ st) Q) = (fun x h' => XJ sc d k h' (pc + 3) lo (vi x :: st) Q) := by
    funext x h'
    rw [hr x]
    rfl
  refine xg_callS (as := [a1, a2, a3, a4]) M hl hs hd he rfl hd2 hm hst ?_
  rw [e]
  exact kk
theorem xj_N4I {sc : Option (Nat × (Int → Int))} {d d2 : Nat} {k k2 : MI} {h : Hp} {pc pc2 : Nat} {lo : Lo} {st : List Value} {Q : Int → Hp → Prop} {a1 a2 a3 a4 : Value} {cs host : String} {idx : Nat} (M : MOK k2 4) (hl : (cs, idx, k2.1, host) ∈ nestL) (hs : Cond.static k2.1 ∈ wT) (hd : decode k.2.1 pc = .ok (.invokestatic idx, 3)) (hp : pc + 3 = pc2) (he : k.1.cls = cs) (hd2 : d2 + 1 ≤ d) (hm : k2.2.2.1 ≤ 40) (hst : (st.map fun v => v.category).sum ≤ 8) (hr : ∀ x, rv k2 x = some (vi x)) (kk : CJ d2 k2 [a1, a2, a3, a4] h (fun x h' => XJ sc d k h' pc2 lo (vi x :: st) Q)) : XJ sc d k h pc lo (a4 :: a3 :: a2 :: a1 :: st) Q := by
  subst hp
  have e : (fun x h' => XJ sc d k h' (pc + 3) lo ((rv k2 x).toList ++ st) Q) = (fun x h' => XJ sc d k h' (pc + 3) lo (vi x :: st) Q) := by
    funext x h'
    rw [hr x]
    rfl
  refine xg_callN (as := [a1, a2, a3, a4]) M hl hs hd he rfl hd2 hm hst ?_
  rw [e]
  exact kk
theorem xj_V4I {sc : Option (Nat × (Int → Int))} {d d2 : Nat} {k k2 : MI} {h : Hp} {pc pc2 : Nat} {lo : Lo} {st : List Value} {Q : Int → Hp → Prop} {a1 a2 a3 a4 : Value} {cs Cn : String} {T : u_T} {N idx b ci : Nat} (M : MOK k2 4) (hl : Cond.methodLink cs idx k2.1 ∈ wT) (hi : Cond.instanceMethod k2.1 ∈ wT) (hse : Cond.selects Cn k2.1 k2.1 ∈ wT) (hcl : xjCl[ci]? = some (Cn, T, N)) (hkb : kd b = (0, ci)) (hd : decode k.2.1 pc = .ok (.invokevirtual idx, 3)) (hp : pc + 3 = pc2) (he : k.1.cls = cs) (hd2 : d2 + 1 ≤ d) (hm : k2.2.2.1 ≤ 40) (hst : (st.map fun v => v.category).sum ≤ 8) (hr : ∀ x, rv k2 x = some (vi x)) (kk : CJ d2 k2 [.ref b, a1, a2, a3, a4] h (fun x h' => XJ sc d k h' pc2 lo (vi x :: st) Q)) : XJ sc d k h pc lo (a4 :: a3 :: a2 :: a1 :: .ref b :: st) Q := by
  subst hp
  have e : (fun x h' => XJ sc d k h' (pc + 3) lo ((rv k2 x).toList ++ st) Q) = (fun x h' => XJ sc d k h' (pc + 3) lo (vi x :: st) Q) := by
    funext x h'
    rw [hr x]
    rfl
  refine xg_callV (as := [a1, a2, a3, a4]) M hl hi hse hcl hkb hd he rfl hd2 hm hst ?_
  rw [e]
  exact kk
theorem xj_S4J {sc : Option (Nat × (Int → Int))} {d d2 : Nat} {k k2 : MI} {h : Hp} {pc pc2 : Nat} {lo : Lo} {st : List Value} {Q : Int → Hp → Prop} {a1 a2 a3 a4 : Value} {cs : String} {idx : Nat} (M : MOK k2 4) (hl : Cond.methodLink cs idx k2.1 ∈ wT) (hs : Cond.static k2.1 ∈ wT) (hd : decode k.2.1 pc = .ok (.invokestatic idx, 3)) (hp : pc + 3 = pc2) (he : k.1.cls = cs) (hd2 : d2 + 1 ≤ d) (hm : k2.2.2.1 ≤ 40) (hst : (st.map fun v => v.category).sum ≤ 8) (hr : ∀ x, rv k2 x = some (vl x)) (kk : CJ d2 k2 [a1, a2, a3, a4] h (fun x h' => XJ sc d k h' pc2 lo (vl x :: st) Q)) : XJ sc d k h pc lo (a4 :: a3 :: a2 :: a1 :: st) Q := by
  subst hp
  have e : (fun x h' => XJ sc d k h' (pc + 3) lo ((rv k2 x).toList ++ st) Q) = (fun x h' => XJ sc d k h' (pc + 3) lo (vl x :: st) Q) := by
    funext x h'
    rw [hr x]
    rfl
  refine xg_callS (as := [a1, a2, a3, a4]) M hl hs hd he rfl hd2 hm hst ?_
  rw [e]
  exact kk
theorem xj_N4J {sc : Option (Nat × (Int → Int))} {d d2 : Nat} {k k2 : MI} {h : Hp} {pc pc2 : Nat} {lo : Lo} {st : List Value} {Q : Int → Hp → Prop} {a1 a2 a3 a4 : Value} {cs host : String} {idx : Nat} (M : MOK k2 4) (hl : (cs, idx, k2.1, host) ∈ nestL) (hs : Cond.static k2.1 ∈ wT) (hd : decode k.2.1 pc = .ok (.invokestatic idx, 3)) (hp : pc + 3 = pc2) (he : k.1.cls = cs) (hd2 : d2 + 1 ≤ d) (hm : k2.2.2.1 ≤ 40) (hst : (st.map fun v => v.category).sum ≤ 8) (hr : ∀ x, rv k2 x = some (vl x)) (kk : CJ d2 k2 [a1, a2, a3, a4] h (fun x h' => XJ sc d k h' pc2 lo (vl x :: st) Q)) : XJ sc d k h pc lo (a4 :: a3 :: a2 :: a1 :: st) Q := by
  subst hp
  have e : (fun x h' => XJ sc d k h' (pc + 3) lo ((rv k2 x).toList ++ st) Q) = (fun x h' => XJ sc d k h' (pc + 3) lo (vl x :: st) Q) := by
    funext x h'
    rw [hr x]
    rfl
  refine xg_callN (as := [a1, a2, a3, a4]) M hl hs hd he rfl hd2 hm hst ?_
  rw [e]
  exact kk
theorem xj_V4J {sc : Option (Nat × (Int → Int))} {d d2 : Nat} {k k2 : MI} {h : Hp} {pc pc2 : Nat} {lo : Lo} {st : List Value} {Q : Int → Hp → Prop} {a1 a2 a3 a4 : Value} {cs Cn : String} {T : u_T} {N idx b ci : Nat} (M : MOK k2 4) (hl : Cond.methodLink cs idx k2.1 ∈ wT) (hi : Cond.instanceMethod k2.1 ∈ wT) (hse : Cond.selects Cn k2.1 k2.1 ∈ wT) (hcl : xjCl[ci]? = some (Cn, T, N)) (hkb : kd b = (0, ci)) (hd : decode k.2.1 pc = .ok (.invokevirtual idx, 3)) (hp : pc + 3 = pc2) (he : k.1.cls = cs) (hd2 : d2 + 1 ≤ d) (hm : k2.2.2.1 ≤ 40) (hst : (st.map fun v => v.category).sum ≤ 8) (hr : ∀ x, rv k2 x = some (vl x)) (kk : CJ d2 k2 [.ref b, a1, a2, a3, a4] h (fun x h' => XJ sc d k h' pc2 lo (vl x :: st) Q)) : XJ sc d k h pc lo (a4 :: a3 :: a2 :: a1 :: .ref b :: st) Q := by
  subst hp
  have e : (fun x h' => XJ sc d k h' (pc + 3) lo ((rv k2 x).toList ++ st) Q) = (fun x h' => XJ sc d k h' (pc + 3) lo (vl x :: st) Q) := by
    funext x h'
    rw [hr x]
    rfl
  refine xg_callV (as := [a1, a2, a3, a4]) M hl hi hse hcl hkb hd he rfl hd2 hm hst ?_
  rw [e]
  exact kk
theorem xj_S4V {sc : Option (Nat × (Int → Int))} {d d2 : Nat} {k k2 : MI} {h : Hp} {pc pc2 : Nat} {lo : Lo} {st : List Value} {Q : Int → Hp → Prop} {a1 a2 a3 a4 : Value} {cs : String} {idx : Nat} (M : MOK k2 4) (hl : Cond.methodLink cs idx k2.1 ∈ wT) (hs : Cond.static k2.1 ∈ wT) (hd : decode k.2.1 pc = .ok (.invokestatic idx, 3)) (hp : pc + 3 = pc2) (he : k.1.cls = cs) (hd2 : d2 + 1 ≤ d) (hm : k2.2.2.1 ≤ 40) (hst : (st.map fun v => v.category).sum ≤ 8) (hr : ∀ x, rv k2 x = none) (kk : CJ d2 k2 [a1, a2, a3, a4] h (fun x h' => XJ sc d k h' pc2 lo (st) Q)) : XJ sc d k h pc lo (a4 :: a3 :: a2 :: a1 :: st) Q := by
  subst hp
  have e : (fun x h' => XJ sc d k h' (pc + 3) lo ((rv k2 x).toList ++ st) Q) = (fun x h' => XJ sc d k h' (pc + 3) lo (st) Q) := by
    funext x h'
    rw [hr x]
    rfl
  refine xg_callS (as := [a1, a2, a3, a4]) M hl hs hd he rfl hd2 hm hst ?_
  rw [e]
  exact kk
theorem xj_N4V {sc : Option (Nat × (Int → Int))} {d d2 : Nat} {k k2 : MI} {h : Hp} {pc pc2 : Nat} {lo : Lo} {st : List Value} {Q : Int → Hp → Prop} {a1 a2 a3 a4 : Value} {cs host : String} {idx : Nat} (M : MOK k2 4) (hl : (cs, idx, k2.1, host) ∈ nestL) (hs : Cond.static k2.1 ∈ wT) (hd : decode k.2.1 pc = .ok (.invokestatic idx, 3)) (hp : pc + 3 = pc2) (he : k.1.cls = cs) (hd2 : d2 + 1 ≤ d) (hm : k2.2.2.1 ≤ 40) (hst : (st.map fun v => v.category).sum ≤ 8) (hr : ∀ x, rv k2 x = none) (kk : CJ d2 k2 [a1, a2, a3, a4] h (fun x h' => XJ sc d k h' pc2 lo (st) Q)) : XJ sc d k h pc lo (a4 :: a3 :: a2 :: a1 :: st) Q := by
  subst hp
  have e : (fun x h' => XJ sc d k h' (pc + 3) lo ((rv k2 x).toList ++ st) Q) = (fun x h' => XJ sc d k h' (pc + 3) lo (st) Q) := by
    funext x h'
    rw [hr x]
    rfl
  refine xg_callN (as := [a1, a2, a3, a4]) M hl hs hd he rfl hd2 hm hst ?_
  rw [e]
  exact kk
theorem xj_V4V {sc : Option (Nat × (Int → Int))} {d d2 : Nat} {k k2 : MI} {h : Hp} {pc pc2 : Nat} {lo : Lo} {st : List Value} {Q : Int → Hp → Prop} {a1 a2 a3 a4 : Value} {cs Cn : String} {T : u_T} {N idx b ci : Nat} (M : MOK k2 4) (hl : Cond.methodLink cs idx k2.1 ∈ wT) (hi : Cond.instanceMethod k2.1 ∈ wT) (hse : Cond.selects Cn k2.1 k2.1 ∈ wT) (hcl : xjCl[ci]? = some (Cn, T, N)) (hkb : kd b = (0, ci)) (hd : decode k.2.1 pc = .ok (.invokevirtual idx, 3)) (hp : pc + 3 = pc2) (he : k.1.cls = cs) (hd2 : d2 + 1 ≤ d) (hm : k2.2.2.1 ≤ 40) (hst : (st.map fun v => v.category).sum ≤ 8) (hr : ∀ x, rv k2 x = none) (kk : CJ d2 k2 [.ref b, a1, a2, a3, a4] h (fun x h' => XJ sc d k h' pc2 lo (st) Q)) : XJ sc d k h pc lo (a4 :: a3 :: a2 :: a1 :: .ref b :: st) Q := by
  subst hp
  have e : (fun x h' => XJ sc d k h' (pc + 3) lo ((rv k2 x).toList ++ st) Q) = (fun x h' => XJ sc d k h' (pc + 3) lo (st) Q) := by
    funext x h'
    rw [hr x]
    rfl
  refine xg_callV (as := [a1, a2, a3, a4]) M hl hi hse hcl hkb hd he rfl hd2 hm hst ?_
  rw [e]
  exact kk
theorem xj_S5I {sc : Option (Nat × (Int → Int))} {d d2 : Nat} {k k2 : MI} {h : Hp} {pc pc2 : Nat} {lo : Lo} {st : List Value} {Q : Int → Hp → Prop} {a1 a2 a3 a4 a5 : Value} {cs : String} {idx : Nat} (M : MOK k2 5) (hl : Cond.methodLink cs idx k2.1 ∈ wT) (hs : Cond.static k2.1 ∈ wT) (hd : decode k.2.1 pc = .ok (.invokestatic idx, 3)) (hp : pc + 3 = pc2) (he : k.1.cls = cs) (hd2 : d2 + 1 ≤ d) (hm : k2.2.2.1 ≤ 40) (hst : (st.map fun v => v.category).sum ≤ 8) (hr : ∀ x, rv k2 x = some (vi x)) (kk : CJ d2 k2 [a1, a2, a3, a4, a5] h (fun x h' => XJ sc d k h' pc2 lo (vi x :: st) Q)) : XJ sc d k h pc lo (a5 :: a4 :: a3 :: a2 :: a1 :: st) Q := by
  subst hp
  have e : (fun x h' => XJ sc d k h' (pc + 3) lo ((rv k2 x).toList ++ st) Q) = (fun x h' => XJ sc d k h' (pc + 3) lo (vi x :: st) Q) := by
    funext x h'
    rw [hr x]
    rfl
  refine xg_callS (as := [a1, a2, a3, a4, a5]) M hl hs hd he rfl hd2 hm hst ?_
  rw [e]
  exact kk
theorem xj_N5I {sc : Option (Nat × (Int → Int))} {d d2 : Nat} {k k2 : MI} {h : Hp} {pc pc2 : Nat} {lo : Lo} {st : List Value} {Q : Int → Hp → Prop} {a1 a2 a3 a4 a5 : Value} {cs host : String} {idx : Nat} (M : MOK k2 5) (hl : (cs, idx, k2.1, host) ∈ nestL) (hs : Cond.static k2.1 ∈ wT) (hd : decode k.2.1 pc = .ok (.invokestatic idx, 3)) (hp : pc + 3 = pc2) (he : k.1.cls = cs) (hd2 : d2 + 1 ≤ d) (hm : k2.2.2.1 ≤ 40) (hst : (st.map fun v => v.category).sum ≤ 8) (hr : ∀ x, rv k2 x = some (vi x)) (kk : CJ d2 k2 [a1, a2, a3, a4, a5] h (fun x h' => XJ sc d k h' pc2 lo (vi x :: st) Q)) : XJ sc d k h pc lo (a5 :: a4 :: a3 :: a2 :: a1 :: st) Q := by
  subst hp
  have e : (fun x h' => XJ sc d k h' (pc + 3) lo ((rv k2 x).toList ++ st) Q) = (fun x h' => XJ sc d k h' (pc + 3) lo (vi x :: st) Q) := by
    funext x h'
    rw [hr x]
    rfl
  refine xg_callN (as := [a1, a2, a3, a4, a5]) M hl hs hd he rfl hd2 hm hst ?_
  rw [e]
  exact kk
theorem xj_V5I {sc : Option (Nat × (Int → Int))} {d d2 : Nat} {k k2 : MI} {h : Hp} {pc pc2 : Nat} {lo : Lo} {st : List Value} {Q : Int → Hp → Prop} {a1 a2 a3 a4 a5 : Value} {cs Cn : String} {T : u_T} {N idx b ci : Nat} (M : MOK k2 5) (hl : Cond.methodLink cs idx k2.1 ∈ wT) (hi : Cond.instanceMethod k2.1 ∈ wT) (hse : Cond.selects Cn k2.1 k2.1 ∈ wT) (hcl : xjCl[ci]? = some (Cn, T, N)) (hkb : kd b = (0, ci)) (hd : decode k.2.1 pc = .ok (.invokevirtual idx, 3)) (hp : pc + 3 = pc2) (he : k.1.cls = cs) (hd2 : d2 + 1 ≤ d) (hm : k2.2.2.1 ≤ 40) (hst : (st.map fun v => v.category).sum ≤ 8) (hr : ∀ x, rv k2 x = some (vi x)) (kk : CJ d2 k2 [.ref b, a1, a2, a3, a4, a5] h (fun x h' => XJ sc d k h' pc2 lo (vi x :: st) Q)) : XJ sc d k h pc lo (a5 :: a4 :: a3 :: a2 :: a1 :: .ref b :: st) Q := by
  subst hp
  have e : (fun x h' => XJ sc d k h' (pc + 3) lo ((rv k2 x).toList ++ st) Q) = (fun x h' => XJ sc d k h' (pc + 3) lo (vi x :: st) Q) := by
    funext x h'
    rw [hr x]
    rfl
  refine xg_callV (as := [a1, a2, a3, a4, a5]) M hl hi hse hcl hkb hd he rfl hd2 hm hst ?_
  rw [e]
  exact kk
theorem xj_S5J {sc : Option (Nat × (Int → Int))} {d d2 : Nat} {k k2 : MI} {h : Hp} {pc pc2 : Nat} {lo : Lo} {st : List Value} {Q : Int → Hp → Prop} {a1 a2 a3 a4 a5 : Value} {cs : String} {idx : Nat} (M : MOK k2 5) (hl : Cond.methodLink cs idx k2.1 ∈ wT) (hs : Cond.static k2.1 ∈ wT) (hd : decode k.2.1 pc = .ok (.invokestatic idx, 3)) (hp : pc + 3 = pc2) (he : k.1.cls = cs) (hd2 : d2 + 1 ≤ d) (hm : k2.2.2.1 ≤ 40) (hst : (st.map fun v => v.category).sum ≤ 8) (hr : ∀ x, rv k2 x = some (vl x)) (kk : CJ d2 k2 [a1, a2, a3, a4, a5] h (fun x h' => XJ sc d k h' pc2 lo (vl x :: st) Q)) : XJ sc d k h pc lo (a5 :: a4 :: a3 :: a2 :: a1 :: st) Q := by
  subst hp
  have e : (fun x h' => XJ sc d k h' (pc + 3) lo ((rv k2 x).toList ++ st) Q) = (fun x h' => XJ sc d k h' (pc + 3) lo (vl x :: st) Q) := by
    funext x h'
    rw [hr x]
    rfl
  refine xg_callS (as := [a1, a2, a3, a4, a5]) M hl hs hd he rfl hd2 hm hst ?_
  rw [e]
  exact kk
theorem xj_N5J {sc : Option (Nat × (Int → Int))} {d d2 : Nat} {k k2 : MI} {h : Hp} {pc pc2 : Nat} {lo : Lo} {st : List Value} {Q : Int → Hp → Prop} {a1 a2 a3 a4 a5 : Value} {cs host : String} {idx : Nat} (M : MOK k2 5) (hl : (cs, idx, k2.1, host) ∈ nestL) (hs : Cond.static k2.1 ∈ wT) (hd : decode k.2.1 pc = .ok (.invokestatic idx, 3)) (hp : pc + 3 = pc2) (he : k.1.cls = cs) (hd2 : d2 + 1 ≤ d) (hm : k2.2.2.1 ≤ 40) (hst : (st.map fun v => v.category).sum ≤ 8) (hr : ∀ x, rv k2 x = some (vl x)) (kk : CJ d2 k2 [a1, a2, a3, a4, a5] h (fun x h' => XJ sc d k h' pc2 lo (vl x :: st) Q)) : XJ sc d k h pc lo (a5 :: a4 :: a3 :: a2 :: a1 :: st) Q := by
  subst hp
  have e : (fun x h' => XJ sc d k h' (pc + 3) lo ((rv k2 x).toList ++ st) Q) = (fun x h' => XJ sc d k h' (pc + 3) lo (vl x :: st) Q) := by
    funext x h'
    rw [hr x]
    rfl
  refine xg_callN (as := [a1, a2, a3, a4, a5]) M hl hs hd he rfl hd2 hm hst ?_
  rw [e]
  exact kk
theorem xj_V5J {sc : Option (Nat × (Int → Int))} {d d2 : Nat} {k k2 : MI} {h : Hp} {pc pc2 : Nat} {lo : Lo} {st : List Value} {Q : Int → Hp → Prop} {a1 a2 a3 a4 a5 : Value} {cs Cn : String} {T : u_T} {N idx b ci : Nat} (M : MOK k2 5) (hl : Cond.methodLink cs idx k2.1 ∈ wT) (hi : Cond.instanceMethod k2.1 ∈ wT) (hse : Cond.selects Cn k2.1 k2.1 ∈ wT) (hcl : xjCl[ci]? = some (Cn, T, N)) (hkb : kd b = (0, ci)) (hd : decode k.2.1 pc = .ok (.invokevirtual idx, 3)) (hp : pc + 3 = pc2) (he : k.1.cls = cs) (hd2 : d2 + 1 ≤ d) (hm : k2.2.2.1 ≤ 40) (hst : (st.map fun v => v.category).sum ≤ 8) (hr : ∀ x, rv k2 x = some (vl x)) (kk : CJ d2 k2 [.ref b, a1, a2, a3, a4, a5] h (fun x h' => XJ sc d k h' pc2 lo (vl x :: st) Q)) : XJ sc d k h pc lo (a5 :: a4 :: a3 :: a2 :: a1 :: .ref b :: st) Q := by
  subst hp
  have e : (fun x h' => XJ sc d k h' (pc + 3) lo ((rv k2 x).toList ++ st) Q) = (fun x h' => XJ sc d k h' (pc + 3) lo (vl x :: st) Q) := by
    funext x h'
    rw [hr x]
    rfl
  refine xg_callV (as := [a1, a2, a3, a4, a5]) M hl hi hse hcl hkb hd he rfl hd2 hm hst ?_
  rw [e]
  exact kk
theorem xj_S5V {sc : Option (Nat × (Int → Int))} {d d2 : Nat} {k k2 : MI} {h : Hp} {pc pc2 : Nat} {lo : Lo} {st : List Value} {Q : Int → Hp → Prop} {a1 a2 a3 a4 a5 : Value} {cs : String} {idx : Nat} (M : MOK k2 5) (hl : Cond.methodLink cs idx k2.1 ∈ wT) (hs : Cond.static k2.1 ∈ wT) (hd : decode k.2.1 pc = .ok (.invokestatic idx, 3)) (hp : pc + 3 = pc2) (he : k.1.cls = cs) (hd2 : d2 + 1 ≤ d) (hm : k2.2.2.1 ≤ 40) (hst : (st.map fun v => v.category).sum ≤ 8) (hr : ∀ x, rv k2 x = none) (kk : CJ d2 k2 [a1, a2, a3, a4, a5] h (fun x h' => XJ sc d k h' pc2 lo (st) Q)) : XJ sc d k h pc lo (a5 :: a4 :: a3 :: a2 :: a1 :: st) Q := by
  subst hp
  have e : (fun x h' => XJ sc d k h' (pc + 3) lo ((rv k2 x).toList ++ st) Q) = (fun x h' => XJ sc d k h' (pc + 3) lo (st) Q) := by
    funext x h'
    rw [hr x]
    rfl
  refine xg_callS (as := [a1, a2, a3, a4, a5]) M hl hs hd he rfl hd2 hm hst ?_
  rw [e]
  exact kk
theorem xj_N5V {sc : Option (Nat × (Int → Int))} {d d2 : Nat} {k k2 : MI} {h : Hp} {pc pc2 : Nat} {lo : Lo} {st : List Value} {Q : Int → Hp → Prop} {a1 a2 a3 a4 a5 : Value} {cs host : String} {idx : Nat} (M : MOK k2 5) (hl : (cs, idx, k2.1, host) ∈ nestL) (hs : Cond.static k2.1 ∈ wT) (hd : decode k.2.1 pc = .ok (.invokestatic idx, 3)) (hp : pc + 3 = pc2) (he : k.1.cls = cs) (hd2 : d2 + 1 ≤ d) (hm : k2.2.2.1 ≤ 40) (hst : (st.map fun v => v.category).sum ≤ 8) (hr : ∀ x, rv k2 x = none) (kk : CJ d2 k2 [a1, a2, a3, a4, a5] h (fun x h' => XJ sc d k h' pc2 lo (st) Q)) : XJ sc d k h pc lo (a5 :: a4 :: a3 :: a2 :: a1 :: st) Q := by
  subst hp
  have e : (fun x h' => XJ sc d k h' (pc + 3) lo ((rv k2 x).toList ++ st) Q) = (fun x h' => XJ sc d k h' (pc + 3) lo (st) Q) := by
    funext x h'
    rw [hr x]
    rfl
  refine xg_callN (as := [a1, a2, a3, a4, a5]) M hl hs hd he rfl hd2 hm hst ?_
  rw [e]
  exact kk
theorem xj_V5V {sc : Option (Nat × (Int → Int))} {d d2 : Nat} {k k2 : MI} {h : Hp} {pc pc2 : Nat} {lo : Lo} {st : List Value} {Q : Int → Hp → Prop} {a1 a2 a3 a4 a5 : Value} {cs Cn : String} {T : u_T} {N idx b ci : Nat} (M : MOK k2 5) (hl : Cond.methodLink cs idx k2.1 ∈ wT) (hi : Cond.instanceMethod k2.1 ∈ wT) (hse : Cond.selects Cn k2.1 k2.1 ∈ wT) (hcl : xjCl[ci]? = some (Cn, T, N)) (hkb : kd b = (0, ci)) (hd : decode k.2.1 pc = .ok (.invokevirtual idx, 3)) (hp : pc + 3 = pc2) (he : k.1.cls = cs) (hd2 : d2 + 1 ≤ d) (hm : k2.2.2.1 ≤ 40) (hst : (st.map fun v => v.category).sum ≤ 8) (hr : ∀ x, rv k2 x = none) (kk : CJ d2 k2 [.ref b, a1, a2, a3, a4, a5] h (fun x h' => XJ sc d k h' pc2 lo (st) Q)) : XJ sc d k h pc lo (a5 :: a4 :: a3 :: a2 :: a1 :: .ref b :: st) Q := by
  subst hp
  have e : (fun x h' => XJ sc d k h' (pc + 3) lo ((rv k2 x).toList ++ st) Q) = (fun x h' => XJ sc d k h' (pc + 3) lo (st) Q) := by
    funext x h'
    rw [hr x]
    rfl
  refine xg_callV (as := [a1, a2, a3, a4, a5]) M hl hi hse hcl hkb hd he rfl hd2 hm hst ?_
  rw [e]
  exact kk
theorem xj_S6I {sc : Option (Nat × (Int → Int))} {d d2 : Nat} {k k2 : MI} {h : Hp} {pc pc2 : Nat} {lo : Lo} {st : List Value} {Q : Int → Hp → Prop} {a1 a2 a3 a4 a5 a6 : Value} {cs : String} {idx : Nat} (M : MOK k2 6) (hl : Cond.methodLink cs idx k2.1 ∈ wT) (hs : Cond.static k2.1 ∈ wT) (hd : decode k.2.1 pc = .ok (.invokestatic idx, 3)) (hp : pc + 3 = pc2) (he : k.1.cls = cs) (hd2 : d2 + 1 ≤ d) (hm : k2.2.2.1 ≤ 40) (hst : (st.map fun v => v.category).sum ≤ 8) (hr : ∀ x, rv k2 x = some (vi x)) (kk : CJ d2 k2 [a1, a2, a3, a4, a5, a6] h (fun x h' => XJ sc d k h' pc2 lo (vi x :: st) Q)) : XJ sc d k h pc lo (a6 :: a5 :: a4 :: a3 :: a2 :: a1 :: st) Q := by
  subst hp
  have e : (fun x h' => XJ sc d k h' (pc + 3) lo ((rv k2 x).toList ++ st) Q) = (fun x h' => XJ sc d k h' (pc + 3) lo (vi x :: st) Q) := by
    funext x h'
    rw [hr x]
    rfl
  refine xg_callS (as := [a1, a2, a3, a4, a5, a6]) M hl hs hd he rfl hd2 hm hst ?_
  rw [e]
  exact kk
theorem xj_N6I {sc : Option (Nat × (Int → Int))} {d d2 : Nat} {k k2 : MI} {h : Hp} {pc pc2 : Nat} {lo : Lo} {st : List Value} {Q : Int → Hp → Prop} {a1 a2 a3 a4 a5 a6 : Value} {cs host : String} {idx : Nat} (M : MOK k2 6) (hl : (cs, idx, k2.1, host) ∈ nestL) (hs : Cond.static k2.1 ∈ wT) (hd : decode k.2.1 pc = .ok (.invokestatic idx, 3)) (hp : pc + 3 = pc2) (he : k.1.cls = cs) (hd2 : d2 + 1 ≤ d) (hm : k2.2.2.1 ≤ 40) (hst : (st.map fun v => v.category).sum ≤ 8) (hr : ∀ x, rv k2 x = some (vi x)) (kk : CJ d2 k2 [a1, a2, a3, a4, a5, a6] h (fun x h' => XJ sc d k h' pc2 lo (vi x :: st) Q)) : XJ sc d k h pc lo (a6 :: a5 :: a4 :: a3 :: a2 :: a1 :: st) Q := by
  subst hp
  have e : (fun x h' => XJ sc d k h' (pc + 3) lo ((rv k2 x).toList ++ st) Q) = (fun x h' => XJ sc d k h' (pc + 3) lo (vi x :: st) Q) := by
    funext x h'
    rw [hr x]
    rfl
  refine xg_callN (as := [a1, a2, a3, a4, a5, a6]) M hl hs hd he rfl hd2 hm hst ?_
  rw [e]
  exact kk
theorem xj_V6I {sc : Option (Nat × (Int → Int))} {d d2 : Nat} {k k2 : MI} {h : Hp} {pc pc2 : Nat} {lo : Lo} {st : List Value} {Q : Int → Hp → Prop} {a1 a2 a3 a4 a5 a6 : Value} {cs Cn : String} {T : u_T} {N idx b ci : Nat} (M : MOK k2 6) (hl : Cond.methodLink cs idx k2.1 ∈ wT) (hi : Cond.instanceMethod k2.1 ∈ wT) (hse : Cond.selects Cn k2.1 k2.1 ∈ wT) (hcl : xjCl[ci]? = some (Cn, T, N)) (hkb : kd b = (0, ci)) (hd : decode k.2.1 pc = .ok (.invokevirtual idx, 3)) (hp : pc + 3 = pc2) (he : k.1.cls = cs) (hd2 : d2 + 1 ≤ d) (hm : k2.2.2.1 ≤ 40) (hst : (st.map fun v => v.category).sum ≤ 8) (hr : ∀ x, rv k2 x = some (vi x)) (kk : CJ d2 k2 [.ref b, a1, a2, a3, a4, a5, a6] h (fun x h' => XJ sc d k h' pc2 lo (vi x :: st) Q)) : XJ sc d k h pc lo (a6 :: a5 :: a4 :: a3 :: a2 :: a1 :: .ref b :: st) Q := by
  subst hp
  have e : (fun x h' => XJ sc d k h' (pc + 3) lo ((rv k2 x).toList ++ st) Q) = (fun x h' => XJ sc d k h' (pc + 3) lo (vi x :: st) Q) := by
    funext x h'
    rw [hr x]
    rfl
  refine xg_callV (as := [a1, a2, a3, a4, a5, a6]) M hl hi hse hcl hkb hd he rfl hd2 hm hst ?_
  rw [e]
  exact kk
theorem xj_S6J {sc : Option (Nat × (Int → Int))} {d d2 : Nat} {k k2 : MI} {h : Hp} {pc pc2 : Nat} {lo : Lo} {st : List Value} {Q : Int → Hp → Prop} {a1 a2 a3 a4 a5 a6 : Value} {cs : String} {idx : Nat} (M : MOK k2 6) (hl : Cond.methodLink cs idx k2.1 ∈ wT) (hs : Cond.static k2.1 ∈ wT) (hd : decode k.2.1 pc = .ok (.invokestatic idx, 3)) (hp : pc + 3 = pc2) (he : k.1.cls = cs) (hd2 : d2 + 1 ≤ d) (hm : k2.2.2.1 ≤ 40) (hst : (st.map fun v => v.category).sum ≤ 8) (hr : ∀ x, rv k2 x = some (vl x)) (kk : CJ d2 k2 [a1, a2, a3, a4, a5, a6] h (fun x h' => XJ sc d k h' pc2 lo (vl x :: st) Q)) : XJ sc d k h pc lo (a6 :: a5 :: a4 :: a3 :: a2 :: a1 :: st) Q := by
  subst hp
  have e : (fun x h' => XJ sc d k h' (pc + 3) lo ((rv k2 x).toList ++ st) Q) = (fun x h' => XJ sc d k h' (pc + 3) lo (vl x :: st) Q) := by
    funext x h'
    rw [hr x]
    rfl
  refine xg_callS (as := [a1, a2, a3, a4, a5, a6]) M hl hs hd he rfl hd2 hm hst ?_
  rw [e]
  exact kk
theorem xj_N6J {sc : Option (Nat × (Int → Int))} {d d2 : Nat} {k k2 : MI} {h : Hp} {pc pc2 : Nat} {lo : Lo} {st : List Value} {Q : Int → Hp → Prop} {a1 a2 a3 a4 a5 a6 : Value} {cs host : String} {idx : Nat} (M : MOK k2 6) (hl : (cs, idx, k2.1, host) ∈ nestL) (hs : Cond.static k2.1 ∈ wT) (hd : decode k.2.1 pc = .ok (.invokestatic idx, 3)) (hp : pc + 3 = pc2) (he : k.1.cls = cs) (hd2 : d2 + 1 ≤ d) (hm : k2.2.2.1 ≤ 40) (hst : (st.map fun v => v.category).sum ≤ 8) (hr : ∀ x, rv k2 x = some (vl x)) (kk : CJ d2 k2 [a1, a2, a3, a4, a5, a6] h (fun x h' => XJ sc d k h' pc2 lo (vl x :: st) Q)) : XJ sc d k h pc lo (a6 :: a5 :: a4 :: a3 :: a2 :: a1 :: st) Q := by
  subst hp
  have e : (fun x h' => XJ sc d k h' (pc + 3) lo ((rv k2 x).toList ++ st) Q) = (fun x h' => XJ sc d k h' (pc + 3) lo (vl x :: st) Q) := by
    funext x h'
    rw [hr x]
    rfl
  refine xg_callN (as := [a1, a2, a3, a4, a5, a6]) M hl hs hd he rfl hd2 hm hst ?_
  rw [e]
  exact kk
theorem xj_V6J {sc : Option (Nat × (Int → Int))} {d d2 : Nat} {k k2 : MI} {h : Hp} {pc pc2 : Nat} {lo : Lo} {st : List Value} {Q : Int → Hp → Prop} {a1 a2 a3 a4 a5 a6 : Value} {cs Cn : String} {T : u_T} {N idx b ci : Nat} (M : MOK k2 6) (hl : Cond.methodLink cs idx k2.1 ∈ wT) (hi : Cond.instanceMethod k2.1 ∈ wT) (hse : Cond.selects Cn k2.1 k2.1 ∈ wT) (hcl : xjCl[ci]? = some (Cn, T, N)) (hkb : kd b = (0, ci)) (hd : decode k.2.1 pc = .ok (.invokevirtual idx, 3)) (hp : pc + 3 = pc2) (he : k.1.cls = cs) (hd2 : d2 + 1 ≤ d) (hm : k2.2.2.1 ≤ 40) (hst : (st.map fun v => v.category).sum ≤ 8) (hr : ∀ x, rv k2 x = some (vl x)) (kk : CJ d2 k2 [.ref b, a1, a2, a3, a4, a5, a6] h (fun x h' => XJ sc d k h' pc2 lo (vl x :: st) Q)) : XJ sc d k h pc lo (a6 :: a5 :: a4 :: a3 :: a2 :: a1 :: .ref b :: st) Q := by
  subst hp
  have e : (fun x h' => XJ sc d k h' (pc + 3) lo ((rv k2 x).toList ++ st) Q) = (fun x h' => XJ sc d k h' (pc + 3) lo (vl x :: st) Q) := by
    funext x h'
    rw [hr x]
    rfl
  refine xg_callV (as := [a1, a2, a3, a4, a5, a6]) M hl hi hse hcl hkb hd he rfl hd2 hm hst ?_
  rw [e]
  exact kk
theorem xj_S6V {sc : Option (Nat × (Int → Int))} {d d2 : Nat} {k k2 : MI} {h : Hp} {pc pc2 : Nat} {lo : Lo} {st : List Value} {Q : Int → Hp → Prop} {a1 a2 a3 a4 a5 a6 : Value} {cs : String} {idx : Nat} (M : MOK k2 6) (hl : Cond.methodLink cs idx k2.1 ∈ wT) (hs : Cond.static k2.1 ∈ wT) (hd : decode k.2.1 pc = .ok (.invokestatic idx, 3)) (hp : pc + 3 = pc2) (he : k.1.cls = cs) (hd2 : d2 + 1 ≤ d) (hm : k2.2.2.1 ≤ 40) (hst : (st.map fun v => v.category).sum ≤ 8) (hr : ∀ x, rv k2 x = none) (kk : CJ d2 k2 [a1, a2, a3, a4, a5, a6] h (fun x h' => XJ sc d k h' pc2 lo (st) Q)) : XJ sc d k h pc lo (a6 :: a5 :: a4 :: a3 :: a2 :: a1 :: st) Q := by
  subst hp
  have e : (fun x h' => XJ sc d k h' (pc + 3) lo ((rv k2 x).toList ++ st) Q) = (fun x h' => XJ sc d k h' (pc + 3) lo (st) Q) := by
    funext x h'
    rw [hr x]
    rfl
  refine xg_callS (as := [a1, a2, a3, a4, a5, a6]) M hl hs hd he rfl hd2 hm hst ?_
  rw [e]
  exact kk
theorem xj_N6V {sc : Option (Nat × (Int → Int))} {d d2 : Nat} {k k2 : MI} {h : Hp} {pc pc2 : Nat} {lo : Lo} {st : List Value} {Q : Int → Hp → Prop} {a1 a2 a3 a4 a5 a6 : Value} {cs host : String} {idx : Nat} (M : MOK k2 6) (hl : (cs, idx, k2.1, host) ∈ nestL) (hs : Cond.static k2.1 ∈ wT) (hd : decode k.2.1 pc = .ok (.invokestatic idx, 3)) (hp : pc + 3 = pc2) (he : k.1.cls = cs) (hd2 : d2 + 1 ≤ d) (hm : k2.2.2.1 ≤ 40) (hst : (st.map fun v => v.category).sum ≤ 8) (hr : ∀ x, rv k2 x = none) (kk : CJ d2 k2 [a1, a2, a3, a4, a5, a6] h (fun x h' => XJ sc d k h' pc2 lo (st) Q)) : XJ sc d k h pc lo (a6 :: a5 :: a4 :: a3 :: a2 :: a1 :: st) Q := by
  subst hp
  have e : (fun x h' => XJ sc d k h' (pc + 3) lo ((rv k2 x).toList ++ st) Q) = (fun x h' => XJ sc d k h' (pc + 3) lo (st) Q) := by
    funext x h'
    rw [hr x]
    rfl
  refine xg_callN (as := [a1, a2, a3, a4, a5, a6]) M hl hs hd he rfl hd2 hm hst ?_
  rw [e]
  exact kk
theorem xj_V6V {sc : Option (Nat × (Int → Int))} {d d2 : Nat} {k k2 : MI} {h : Hp} {pc pc2 : Nat} {lo : Lo} {st : List Value} {Q : Int → Hp → Prop} {a1 a2 a3 a4 a5 a6 : Value} {cs Cn : String} {T : u_T} {N idx b ci : Nat} (M : MOK k2 6) (hl : Cond.methodLink cs idx k2.1 ∈ wT) (hi : Cond.instanceMethod k2.1 ∈ wT) (hse : Cond.selects Cn k2.1 k2.1 ∈ wT) (hcl : xjCl[ci]? = some (Cn, T, N)) (hkb : kd b = (0, ci)) (hd : decode k.2.1 pc = .ok (.invokevirtual idx, 3)) (hp : pc + 3 = pc2) (he : k.1.cls = cs) (hd2 : d2 + 1 ≤ d) (hm : k2.2.2.1 ≤ 40) (hst : (st.map fun v => v.category).sum ≤ 8) (hr : ∀ x, rv k2 x = none) (kk : CJ d2 k2 [.ref b, a1, a2, a3, a4, a5, a6] h (fun x h' => XJ sc d k h' pc2 lo (st) Q)) : XJ sc d k h pc lo (a6 :: a5 :: a4 :: a3 :: a2 :: a1 :: .ref b :: st) Q := by
  subst hp
  have e : (fun x h' => XJ sc d k h' (pc + 3) lo ((rv k2 x).toList ++ st) Q) = (fun x h' => XJ sc d k h' (pc + 3) lo (st) Q) := by
    funext x h'
    rw [hr x]
    rfl
  refine xg_callV (as := [a1, a2, a3, a4, a5, a6]) M hl hi hse hcl hkb hd he rfl hd2 hm hst ?_
  rw [e]
  exact kk
theorem xj_S7I {sc : Option (Nat × (Int → Int))} {d d2 : Nat} {k k2 : MI} {h : Hp} {pc pc2 : Nat} {lo : Lo} {st : List Value} {Q : Int → Hp → Prop} {a1 a2 a3 a4 a5 a6 a7 : Value} {cs : String} {idx : Nat} (M : MOK k2 7) (hl : Cond.methodLink cs idx k2.1 ∈ wT) (hs : Cond.static k2.1 ∈ wT) (hd : decode k.2.1 pc = .ok (.invokestatic idx, 3)) (hp : pc + 3 = pc2) (he : k.1.cls = cs) (hd2 : d2 + 1 ≤ d) (hm : k2.2.2.1 ≤ 40) (hst : (st.map fun v => v.category).sum ≤ 8) (hr : ∀ x, rv k2 x = some (vi x)) (kk : CJ d2 k2 [a1, a2, a3, a4, a5, a6, a7] h (fun x h' => XJ sc d k h' pc2 lo (vi x :: st) Q)) : XJ sc d k h pc lo (a7 :: a6 :: a5 :: a4 :: a3 :: a2 :: a1 :: st) Q := by
  subst hp
  have e : (fun x h' => XJ sc d k h' (pc + 3) lo ((rv k2 x).toList ++ st) Q) = (fun x h' => XJ sc d k h' (pc + 3) lo (vi x :: st) Q) := by
    funext x h'
    rw [hr x]
    rfl
  refine xg_callS (as := [a1, a2, a3, a4, a5, a6, a7]) M hl hs hd he rfl hd2 hm hst ?_
  rw [e]
  exact kk
theorem xj_N7I {sc : Option (Nat × (Int → Int))} {d d2 : Nat} {k k2 : MI} {h : Hp} {pc pc2 : Nat} {lo : Lo} {st : List Value} {Q : Int → Hp → Prop} {a1 a2 a3 a4 a5 a6 a7 : Value} {cs host : String} {idx : Nat} (M : MOK k2 7) (hl : (cs, idx, k2.1, host) ∈ nestL) (hs : Cond.static k2.1 ∈ wT) (hd : decode k.2.1 pc = .ok (.invokestatic idx, 3)) (hp : pc + 3 = pc2) (he : k.1.cls = cs) (hd2 : d2 + 1 ≤ d) (hm : k2.2.2.1 ≤ 40) (hst : (st.map fun v => v.category).sum ≤ 8) (hr : ∀ x, rv k2 x = some (vi x)) (kk : CJ d2 k2 [a1, a2, a3, a4, a5, a6, a7] h (fun x h' => XJ sc d k h' pc2 lo (vi x :: st) Q)) : XJ sc d k h pc lo (a7 :: a6 :: a5 :: a4 :: a3 :: a2 :: a1 :: st) Q := by
  subst hp
  have e : (fun x h' => XJ sc d k h' (pc + 3) lo ((rv k2 x).toList ++ st) Q) = (fun x h' => XJ sc d k h' (pc + 3) lo (vi x :: st) Q) := by
    funext x h'
    rw [hr x]
    rfl
  refine xg_callN (as := [a1, a2, a3, a4, a5, a6, a7]) M hl hs hd he rfl hd2 hm hst ?_
  rw [e]
  exact kk
theorem xj_V7I {sc : Option (Nat × (Int → Int))} {d d2 : Nat} {k k2 : MI} {h : Hp} {pc pc2 : Nat} {lo : Lo} {st : List Value} {Q : Int → Hp → Prop} {a1 a2 a3 a4 a5 a6 a7 : Value} {cs Cn : String} {T : u_T} {N idx b ci : Nat} (M : MOK k2 7) (hl : Cond.methodLink cs idx k2.1 ∈ wT) (hi : Cond.instanceMethod k2.1 ∈ wT) (hse : Cond.selects Cn k2.1 k2.1 ∈ wT) (hcl : xjCl[ci]? = some (Cn, T, N)) (hkb : kd b = (0, ci)) (hd : decode k.2.1 pc = .ok (.invokevirtual idx, 3)) (hp : pc + 3 = pc2) (he : k.1.cls = cs) (hd2 : d2 + 1 ≤ d) (hm : k2.2.2.1 ≤ 40) (hst : (st.map fun v => v.category).sum ≤ 8) (hr : ∀ x, rv k2 x = some (vi x)) (kk : CJ d2 k2 [.ref b, a1, a2, a3, a4, a5, a6, a7] h (fun x h' => XJ sc d k h' pc2 lo (vi x :: st) Q)) : XJ sc d k h pc lo (a7 :: a6 :: a5 :: a4 :: a3 :: a2 :: a1 :: .ref b :: st) Q := by
  subst hp
  have e : (fun x h' => XJ sc d k h' (pc + 3) lo ((rv k2 x).toList ++ st) Q) = (fun x h' => XJ sc d k h' (pc + 3) lo (vi x :: st) Q) := by
    funext x h'
    rw [hr x]
    rfl
  refine xg_callV (as := [a1, a2, a3, a4, a5, a6, a7]) M hl hi hse hcl hkb hd he rfl hd2 hm hst ?_
  rw [e]
  exact kk
theorem xj_S7J {sc : Option (Nat × (Int → Int))} {d d2 : Nat} {k k2 : MI} {h : Hp} {pc pc2 : Nat} {lo : Lo} {st : List Value} {Q : Int → Hp → Prop} {a1 a2 a3 a4 a5 a6 a7 : Value} {cs : String} {idx : Nat} (M : MOK k2 7) (hl : Cond.methodLink cs idx k2.1 ∈ wT) (hs : Cond.static k2.1 ∈ wT) (hd : decode k.2.1 pc = .ok (.invokestatic idx, 3)) (hp : pc + 3 = pc2) (he : k.1.cls = cs) (hd2 : d2 + 1 ≤ d) (hm : k2.2.2.1 ≤ 40) (hst : (st.map fun v => v.category).sum ≤ 8) (hr : ∀ x, rv k2 x = some (vl x)) (kk : CJ d2 k2 [a1, a2, a3, a4, a5, a6, a7] h (fun x h' => XJ sc d k h' pc2 lo (vl x :: st) Q)) : XJ sc d k h pc lo (a7 :: a6 :: a5 :: a4 :: a3 :: a2 :: a1 :: st) Q := by
  subst hp
  have e : (fun x h' => XJ sc d k h' (pc + 3) lo ((rv k2 x).toList ++ st) Q) = (fun x h' => XJ sc d k h' (pc + 3) lo (vl x :: st) Q) := by
    funext x h'
    rw [hr x]
    rfl
  refine xg_callS (as := [a1, a2, a3, a4, a5, a6, a7]) M hl hs hd he rfl hd2 hm hst ?_
  rw [e]
  exact kk
theorem xj_N7J {sc : Option (Nat × (Int → Int))} {d d2 : Nat} {k k2 : MI} {h : Hp} {pc pc2 : Nat} {lo : Lo} {st : List Value} {Q : Int → Hp → Prop} {a1 a2 a3 a4 a5 a6 a7 : Value} {cs host : String} {idx : Nat} (M : MOK k2 7) (hl : (cs, idx, k2.1, host) ∈ nestL) (hs : Cond.static k2.1 ∈ wT) (hd : decode k.2.1 pc = .ok (.invokestatic idx, 3)) (hp : pc + 3 = pc2) (he : k.1.cls = cs) (hd2 : d2 + 1 ≤ d) (hm : k2.2.2.1 ≤ 40) (hst : (st.map fun v => v.category).sum ≤ 8) (hr : ∀ x, rv k2 x = some (vl x)) (kk : CJ d2 k2 [a1, a2, a3, a4, a5, a6, a7] h (fun x h' => XJ sc d k h' pc2 lo (vl x :: st) Q)) : XJ sc d k h pc lo (a7 :: a6 :: a5 :: a4 :: a3 :: a2 :: a1 :: st) Q := by
  subst hp
  have e : (fun x h' => XJ sc d k h' (pc + 3) lo ((rv k2 x).toList ++ st) Q) = (fun x h' => XJ sc d k h' (pc + 3) lo (vl x :: st) Q) := by
    funext x h'
    rw [hr x]
    rfl
  refine xg_callN (as := [a1, a2, a3, a4, a5, a6, a7]) M hl hs hd he rfl hd2 hm hst ?_
  rw [e]
  exact kk
theorem xj_V7J {sc : Option (Nat × (Int → Int))} {d d2 : Nat} {k k2 : MI} {h : Hp} {pc pc2 : Nat} {lo : Lo} {st : List Value} {Q : Int → Hp → Prop} {a1 a2 a3 a4 a5 a6 a7 : Value} {cs Cn : String} {T : u_T} {N idx b ci : Nat} (M : MOK k2 7) (hl : Cond.methodLink cs idx k2.1 ∈ wT) (hi : Cond.instanceMethod k2.1 ∈ wT) (hse : Cond.selects Cn k2.1 k2.1 ∈ wT) (hcl : xjCl[ci]? = some (Cn, T, N)) (hkb : kd b = (0, ci)) (hd : decode k.2.1 pc = .ok (.invokevirtual idx, 3)) (hp : pc + 3 = pc2) (he : k.1.cls = cs) (hd2 : d2 + 1 ≤ d) (hm : k2.2.2.1 ≤ 40) (hst : (st.map fun v => v.category).sum ≤ 8) (hr : ∀ x, rv k2 x = some (vl x)) (kk : CJ d2 k2 [.ref b, a1, a2, a3, a4, a5, a6, a7] h (fun x h' => XJ sc d k h' pc2 lo (vl x :: st) Q)) : XJ sc d k h pc lo (a7 :: a6 :: a5 :: a4 :: a3 :: a2 :: a1 :: .ref b :: st) Q := by
  subst hp
  have e : (fun x h' => XJ sc d k h' (pc + 3) lo ((rv k2 x).toList ++ st) Q) = (fun x h' => XJ sc d k h' (pc + 3) lo (vl x :: st) Q) := by
    funext x h'
    rw [hr x]
    rfl
  refine xg_callV (as := [a1, a2, a3, a4, a5, a6, a7]) M hl hi hse hcl hkb hd he rfl hd2 hm hst ?_
  rw [e]
  exact kk
theorem xj_S7V {sc : Option (Nat × (Int → Int))} {d d2 : Nat} {k k2 : MI} {h : Hp} {pc pc2 : Nat} {lo : Lo} {st : List Value} {Q : Int → Hp → Prop} {a1 a2 a3 a4 a5 a6 a7 : Value} {cs : String} {idx : Nat} (M : MOK k2 7) (hl : Cond.methodLink cs idx k2.1 ∈ wT) (hs : Cond.static k2.1 ∈ wT) (hd : decode k.2.1 pc = .ok (.invokestatic idx, 3)) (hp : pc + 3 = pc2) (he : k.1.cls = cs) (hd2 : d2 + 1 ≤ d) (hm : k2.2.2.1 ≤ 40) (hst : (st.map fun v => v.category).sum ≤ 8) (hr : ∀ x, rv k2 x = none) (kk : CJ d2 k2 [a1, a2, a3, a4, a5, a6, a7] h (fun x h' => XJ sc d k h' pc2 lo (st) Q)) : XJ sc d k h pc lo (a7 :: a6 :: a5 :: a4 :: a3 :: a2 :: a1 :: st) Q := by
  subst hp
  have e : (fun x h' => XJ sc d k h' (pc + 3) lo ((rv k2 x).toList ++ st) Q) = (fun x h' => XJ sc d k h' (pc + 3) lo (st) Q) := by
    funext x h'
    rw [hr x]
    rfl
  refine xg_callS (as := [a1, a2, a3, a4, a5, a6, a7]) M hl hs hd he rfl hd2 hm hst ?_
  rw [e]
  exact kk
theorem xj_N7V {sc : Option (Nat × (Int → Int))} {d d2 : Nat} {k k2 : MI} {h : Hp} {pc pc2 : Nat} {lo : Lo} {st : List Value} {Q : Int → Hp → Prop} {a1 a2 a3 a4 a5 a6 a7 : Value} {cs host : String} {idx : Nat} (M : MOK k2 7) (hl : (cs, idx, k2.1, host) ∈ nestL) (hs : Cond.static k2.1 ∈ wT) (hd : decode k.2.1 pc = .ok (.invokestatic idx, 3)) (hp : pc + 3 = pc2) (he : k.1.cls = cs) (hd2 : d2 + 1 ≤ d) (hm : k2.2.2.1 ≤ 40) (hst : (st.map fun v => v.category).sum ≤ 8) (hr : ∀ x, rv k2 x = none) (kk : CJ d2 k2 [a1, a2, a3, a4, a5, a6, a7] h (fun x h' => XJ sc d k h' pc2 lo (st) Q)) : XJ sc d k h pc lo (a7 :: a6 :: a5 :: a4 :: a3 :: a2 :: a1 :: st) Q := by
  subst hp
  have e : (fun x h' => XJ sc d k h' (pc + 3) lo ((rv k2 x).toList ++ st) Q) = (fun x h' => XJ sc d k h' (pc + 3) lo (st) Q) := by
    funext x h'
    rw [hr x]
    rfl
  refine xg_callN (as := [a1, a2, a3, a4, a5, a6, a7]) M hl hs hd he rfl hd2 hm hst ?_
  rw [e]
  exact kk
theorem xj_V7V {sc : Option (Nat × (Int → Int))} {d d2 : Nat} {k k2 : MI} {h : Hp} {pc pc2 : Nat} {lo : Lo} {st : List Value} {Q : Int → Hp → Prop} {a1 a2 a3 a4 a5 a6 a7 : Value} {cs Cn : String} {T : u_T} {N idx b ci : Nat} (M : MOK k2 7) (hl : Cond.methodLink cs idx k2.1 ∈ wT) (hi : Cond.instanceMethod k2.1 ∈ wT) (hse : Cond.selects Cn k2.1 k2.1 ∈ wT) (hcl : xjCl[ci]? = some (Cn, T, N)) (hkb : kd b = (0, ci)) (hd : decode k.2.1 pc = .ok (.invokevirtual idx, 3)) (hp : pc + 3 = pc2) (he : k.1.cls = cs) (hd2 : d2 + 1 ≤ d) (hm : k2.2.2.1 ≤ 40) (hst : (st.map fun v => v.category).sum ≤ 8) (hr : ∀ x, rv k2 x = none) (kk : CJ d2 k2 [.ref b, a1, a2, a3, a4, a5, a6, a7] h (fun x h' => XJ sc d k h' pc2 lo (st) Q)) : XJ sc d k h pc lo (a7 :: a6 :: a5 :: a4 :: a3 :: a2 :: a1 :: .ref b :: st) Q := by
  subst hp
  have e : (fun x h' => XJ sc d k h' (pc + 3) lo ((rv k2 x).toList ++ st) Q) = (fun x h' => XJ sc d k h' (pc + 3) lo (st) Q) := by
    funext x h'
    rw [hr x]
    rfl
  refine xg_callV (as := [a1, a2, a3, a4, a5, a6, a7]) M hl hi hse hcl hkb hd he rfl hd2 hm hst ?_
  rw [e]
  exact kk
theorem q_eq {Q : Int → Hp → Prop} {x y : Int} {h : Hp} (e : x = y) (hq : Q y h) : Q x h := e ▸ hq
theorem q_eh {Q : Int → Hp → Prop} {x y : Int} {h h2 : Hp} (e : x = y) (eh : h = h2) (hq : Q y h2) : Q x h := e ▸ eh ▸ hq
abbrev kX6_init : MI := (yX6_init, cX6_init, 1, none)
theorem mok_X6_init : MOK kX6_init 0 := ⟨by decide +kernel, co_yX6_init, ini_X6, ⟨by decide +kernel, by decide +kernel⟩, by decide +kernel⟩
abbrev kX4_init : MI := (yX4_init, cX4_init, 1, none)
theorem mok_X4_init : MOK kX4_init 0 := ⟨by decide +kernel, co_yX4_init, ini_X4, ⟨by decide +kernel, by decide +kernel⟩, by decide +kernel⟩
abbrev kX5_init : MI := (yX5_init, cX5_init, 1, none)
theorem mok_X5_init : MOK kX5_init 0 := ⟨by decide +kernel, co_yX5_init, ini_X5, ⟨by decide +kernel, by decide +kernel⟩, by decide +kernel⟩
abbrev kX2_init : MI := (yX2_init, cX2_init, 1, none)
theorem mok_X2_init : MOK kX2_init 0 := ⟨by decide +kernel, co_yX2_init, ini_X2, ⟨by decide +kernel, by decide +kernel⟩, by decide +kernel⟩
abbrev kX3_init : MI := (yX3_init, cX3_init, 1, none)
theorem mok_X3_init : MOK kX3_init 0 := ⟨by decide +kernel, co_yX3_init, ini_X3, ⟨by decide +kernel, by decide +kernel⟩, by decide +kernel⟩
abbrev kX0_init : MI := (yX0_init, cX0_init, 1, none)
theorem mok_X0_init : MOK kX0_init 0 := ⟨by decide +kernel, co_yX0_init, ini_X0, ⟨by decide +kernel, by decide +kernel⟩, by decide +kernel⟩
abbrev kX1_init : MI := (yX1_init, cX1_init, 1, none)
theorem mok_X1_init : MOK kX1_init 0 := ⟨by decide +kernel, co_yX1_init, ini_X1, ⟨by decide +kernel, by decide +kernel⟩, by decide +kernel⟩
abbrev kX6_letter : MI := (yX6_letter, cX6_letter, 2, (some .int))
theorem mok_X6_letter : MOK kX6_letter 1 := ⟨by decide +kernel, co_yX6_letter, ini_X6, ⟨by decide +kernel, by decide +kernel⟩, by decide +kernel⟩
abbrev kX6_within : MI := (yX6_within, cX6_within, 3, (some .boolean))
theorem mok_X6_within : MOK kX6_within 3 := ⟨by decide +kernel, co_yX6_within, ini_X6, ⟨by decide +kernel, by decide +kernel⟩, by decide +kernel⟩
abbrev kX4_add : MI := (yX4_add, cX4_add, 2, (some .boolean))
theorem mok_X4_add : MOK kX4_add 1 := ⟨by decide +kernel, co_yX4_add, ini_X4, ⟨by decide +kernel, by decide +kernel⟩, by decide +kernel⟩
abbrev kX6_put : MI := (yX6_put, cX6_put, 3, none)
theorem mok_X6_put : MOK kX6_put 3 := ⟨by decide +kernel, co_yX6_put, ini_X6, ⟨by decide +kernel, by decide +kernel⟩, by decide +kernel⟩
abbrev kX6_blank : MI := (yX6_blank, cX6_blank, 2, (some .int))
theorem mok_X6_blank : MOK kX6_blank 0 := ⟨by decide +kernel, co_yX6_blank, ini_X6, ⟨by decide +kernel, by decide +kernel⟩, by decide +kernel⟩
abbrev kX6_fault : MI := (yX6_fault, cX6_fault, 1, (some .int))
theorem mok_X6_fault : MOK kX6_fault 0 := ⟨by decide +kernel, co_yX6_fault, ini_X6, ⟨by decide +kernel, by decide +kernel⟩, by decide +kernel⟩
abbrev kX4_firstFault : MI := (yX4_firstFault, cX4_firstFault, 5, (some .int))
theorem mok_X4_firstFault : MOK kX4_firstFault 0 := ⟨by decide +kernel, co_yX4_firstFault, ini_X4, ⟨by decide +kernel, by decide +kernel⟩, by decide +kernel⟩
abbrev kX4_semicolon : MI := (yX4_semicolon, cX4_semicolon, 2, (some .int))
theorem mok_X4_semicolon : MOK kX4_semicolon 0 := ⟨by decide +kernel, co_yX4_semicolon, ini_X4, ⟨by decide +kernel, by decide +kernel⟩, by decide +kernel⟩
abbrev kX6_at : MI := (yX6_at, cX6_at, 2, (some .int))
theorem mok_X6_at : MOK kX6_at 2 := ⟨by decide +kernel, co_yX6_at, ini_X6, ⟨by decide +kernel, by decide +kernel⟩, by decide +kernel⟩
abbrev kX4_isNerve : MI := (yX4_isNerve, cX4_isNerve, 2, (some .boolean))
theorem mok_X4_isNerve : MOK kX4_isNerve 2 := ⟨by decide +kernel, co_yX4_isNerve, ini_X4, ⟨by decide +kernel, by decide +kernel⟩, by decide +kernel⟩
abbrev kX4_isDigit : MI := (yX4_isDigit, cX4_isDigit, 1, (some .boolean))
theorem mok_X4_isDigit : MOK kX4_isDigit 1 := ⟨by decide +kernel, co_yX4_isDigit, ini_X4, ⟨by decide +kernel, by decide +kernel⟩, by decide +kernel⟩
abbrev kX4_isOfGloves : MI := (yX4_isOfGloves, cX4_isOfGloves, 3, (some .boolean))
theorem mok_X4_isOfGloves : MOK kX4_isOfGloves 2 := ⟨by decide +kernel, co_yX4_isOfGloves, ini_X4, ⟨by decide +kernel, by decide +kernel⟩, by decide +kernel⟩
abbrev kX6_kindOf : MI := (yX6_kindOf, cX6_kindOf, 1, (some .int))
theorem mok_X6_kindOf : MOK kX6_kindOf 1 := ⟨by decide +kernel, co_yX6_kindOf, ini_X6, ⟨by decide +kernel, by decide +kernel⟩, by decide +kernel⟩
abbrev kX6_shop : MI := (yX6_shop, cX6_shop, 1, (some .int))
theorem mok_X6_shop : MOK kX6_shop 0 := ⟨by decide +kernel, co_yX6_shop, ini_X6, ⟨by decide +kernel, by decide +kernel⟩, by decide +kernel⟩
abbrev kX4_isShop : MI := (yX4_isShop, cX4_isShop, 2, (some .boolean))
theorem mok_X4_isShop : MOK kX4_isShop 0 := ⟨by decide +kernel, co_yX4_isShop, ini_X4, ⟨by decide +kernel, by decide +kernel⟩, by decide +kernel⟩
abbrev kX4_readInto : MI := (yX4_readInto, cX4_readInto, 4, none)
theorem mok_X4_readInto : MOK kX4_readInto 1 := ⟨by decide +kernel, co_yX4_readInto, ini_X4, ⟨by decide +kernel, by decide +kernel⟩, by decide +kernel⟩
abbrev kX5_open : MI := (yX5_open, cX5_open, 3, none)
theorem mok_X5_open : MOK kX5_open 2 := ⟨by decide +kernel, co_yX5_open, ini_X5, ⟨by decide +kernel, by decide +kernel⟩, by decide +kernel⟩
abbrev kJ7_fill_53178 : MI := (yJ7_fill_53178, cJ7_fill_53178, 4, none)
theorem mok_J7_fill_53178 : MOK kJ7_fill_53178 2 := ⟨by decide +kernel, co_yJ7_fill_53178, ini_J7, ⟨by decide +kernel, by decide +kernel⟩, by decide +kernel⟩
abbrev kX6_glove : MI := (yX6_glove, cX6_glove, 3, (some .int))
theorem mok_X6_glove : MOK kX6_glove 2 := ⟨by decide +kernel, co_yX6_glove, ini_X6, ⟨by decide +kernel, by decide +kernel⟩, by decide +kernel⟩
abbrev kX5_hasGlove : MI := (yX5_hasGlove, cX5_hasGlove, 2, (some .boolean))
theorem mok_X5_hasGlove : MOK kX5_hasGlove 1 := ⟨by decide +kernel, co_yX5_hasGlove, ini_X5, ⟨by decide +kernel, by decide +kernel⟩, by decide +kernel⟩
abbrev kX5_temper : MI := (yX5_temper, cX5_temper, 3, (some .int))
theorem mok_X5_temper : MOK kX5_temper 2 := ⟨by decide +kernel, co_yX5_temper, ini_X5, ⟨by decide +kernel, by decide +kernel⟩, by decide +kernel⟩
abbrev kX6_ageOf : MI := (yX6_ageOf, cX6_ageOf, 1, (some .int))
theorem mok_X6_ageOf : MOK kX6_ageOf 1 := ⟨by decide +kernel, co_yX6_ageOf, ini_X6, ⟨by decide +kernel, by decide +kernel⟩, by decide +kernel⟩
abbrev kX6_temperOf : MI := (yX6_temperOf, cX6_temperOf, 3, (some .int))
theorem mok_X6_temperOf : MOK kX6_temperOf 3 := ⟨by decide +kernel, co_yX6_temperOf, ini_X6, ⟨by decide +kernel, by decide +kernel⟩, by decide +kernel⟩
abbrev kX5_quarrels : MI := (yX5_quarrels, cX5_quarrels, 6, (some .int))
theorem mok_X5_quarrels : MOK kX5_quarrels 1 := ⟨by decide +kernel, co_yX5_quarrels, ini_X5, ⟨by decide +kernel, by decide +kernel⟩, by decide +kernel⟩
abbrev kJ9_abs_0f7a4 : MI := (yJ9_abs_0f7a4, cJ9_abs_0f7a4, 1, (some .int))
abbrev kX5_possibleMarks : MI := (yX5_possibleMarks, cX5_possibleMarks, 4, (some .int))
theorem mok_X5_possibleMarks : MOK kX5_possibleMarks 1 := ⟨by decide +kernel, co_yX5_possibleMarks, ini_X5, ⟨by decide +kernel, by decide +kernel⟩, by decide +kernel⟩
abbrev kX5_agreesWithSeen : MI := (yX5_agreesWithSeen, cX5_agreesWithSeen, 6, (some .boolean))
theorem mok_X5_agreesWithSeen : MOK kX5_agreesWithSeen 2 := ⟨by decide +kernel, co_yX5_agreesWithSeen, ini_X5, ⟨by decide +kernel, by decide +kernel⟩, by decide +kernel⟩
abbrev kX5_bestFeel : MI := (yX5_bestFeel, cX5_bestFeel, 7, (some .int))
theorem mok_X5_bestFeel : MOK kX5_bestFeel 1 := ⟨by decide +kernel, co_yX5_bestFeel, ini_X5, ⟨by decide +kernel, by decide +kernel⟩, by decide +kernel⟩
abbrev kX5_mostLeft : MI := (yX5_mostLeft, cX5_mostLeft, 10, (some .int))
theorem mok_X5_mostLeft : MOK kX5_mostLeft 3 := ⟨by decide +kernel, co_yX5_mostLeft, ini_X5, ⟨by decide +kernel, by decide +kernel⟩, by decide +kernel⟩
abbrev kX6_hasBit : MI := (yX6_hasBit, cX6_hasBit, 2, (some .boolean))
theorem mok_X6_hasBit : MOK kX6_hasBit 2 := ⟨by decide +kernel, co_yX6_hasBit, ini_X6, ⟨by decide +kernel, by decide +kernel⟩, by decide +kernel⟩
abbrev kJ9_max_7cf53 : MI := (yJ9_max_7cf53, cJ9_max_7cf53, 2, (some .int))
abbrev kX6_as : MI := (yX6_as, cX6_as, 3, (some .int))
theorem mok_X6_as : MOK kX6_as 2 := ⟨by decide +kernel, co_yX6_as, ini_X6, ⟨by decide +kernel, by decide +kernel⟩, by decide +kernel⟩
abbrev kX6_isOfKind : MI := (yX6_isOfKind, cX6_isOfKind, 2, (some .boolean))
theorem mok_X6_isOfKind : MOK kX6_isOfKind 2 := ⟨by decide +kernel, co_yX6_isOfKind, ini_X6, ⟨by decide +kernel, by decide +kernel⟩, by decide +kernel⟩
abbrev kX6_wearer : MI := (yX6_wearer, cX6_wearer, 3, (some .int))
theorem mok_X6_wearer : MOK kX6_wearer 2 := ⟨by decide +kernel, co_yX6_wearer, ini_X6, ⟨by decide +kernel, by decide +kernel⟩, by decide +kernel⟩
abbrev kX5_hasWearer : MI := (yX5_hasWearer, cX5_hasWearer, 2, (some .boolean))
theorem mok_X5_hasWearer : MOK kX5_hasWearer 1 := ⟨by decide +kernel, co_yX5_hasWearer, ini_X5, ⟨by decide +kernel, by decide +kernel⟩, by decide +kernel⟩
abbrev kX5_moodOf : MI := (yX5_moodOf, cX5_moodOf, 3, (some .int))
theorem mok_X5_moodOf : MOK kX5_moodOf 2 := ⟨by decide +kernel, co_yX5_moodOf, ini_X5, ⟨by decide +kernel, by decide +kernel⟩, by decide +kernel⟩
abbrev kX5_heldBy : MI := (yX5_heldBy, cX5_heldBy, 4, (some .int))
theorem mok_X5_heldBy : MOK kX5_heldBy 1 := ⟨by decide +kernel, co_yX5_heldBy, ini_X5, ⟨by decide +kernel, by decide +kernel⟩, by decide +kernel⟩
abbrev kX5_moodWith : MI := (yX5_moodWith, cX5_moodWith, 9, (some .int))
theorem mok_X5_moodWith : MOK kX5_moodWith 3 := ⟨by decide +kernel, co_yX5_moodWith, ini_X5, ⟨by decide +kernel, by decide +kernel⟩, by decide +kernel⟩
abbrev kJ9_min_7cf53 : MI := (yJ9_min_7cf53, cJ9_min_7cf53, 2, (some .int))
abbrev kX5_gloveOn : MI := (yX5_gloveOn, cX5_gloveOn, 4, (some .int))
theorem mok_X5_gloveOn : MOK kX5_gloveOn 2 := ⟨by decide +kernel, co_yX5_gloveOn, ini_X5, ⟨by decide +kernel, by decide +kernel⟩, by decide +kernel⟩
abbrev kX6_doing : MI := (yX6_doing, cX6_doing, 1, (some .int))
theorem mok_X6_doing : MOK kX6_doing 1 := ⟨by decide +kernel, co_yX6_doing, ini_X6, ⟨by decide +kernel, by decide +kernel⟩, by decide +kernel⟩
abbrev kX5_pleases : MI := (yX5_pleases, cX5_pleases, 4, (some .boolean))
theorem mok_X5_pleases : MOK kX5_pleases 2 := ⟨by decide +kernel, co_yX5_pleases, ini_X5, ⟨by decide +kernel, by decide +kernel⟩, by decide +kernel⟩
abbrev kX5_stillSet : MI := (yX5_stillSet, cX5_stillSet, 9, (some .int))
theorem mok_X5_stillSet : MOK kX5_stillSet 1 := ⟨by decide +kernel, co_yX5_stillSet, ini_X5, ⟨by decide +kernel, by decide +kernel⟩, by decide +kernel⟩
abbrev kJ6_bitCount_0f7a4 : MI := (yJ6_bitCount_0f7a4, cJ6_bitCount_0f7a4, 1, (some .int))
theorem mok_J6_bitCount_0f7a4 : MOK kJ6_bitCount_0f7a4 1 := ⟨by decide +kernel, co_yJ6_bitCount_0f7a4, ini_J6, ⟨by decide +kernel, by decide +kernel⟩, by decide +kernel⟩
abbrev kX5_changesTo : MI := (yX5_changesTo, cX5_changesTo, 3, (some .int))
theorem mok_X5_changesTo : MOK kX5_changesTo 2 := ⟨by decide +kernel, co_yX5_changesTo, ini_X5, ⟨by decide +kernel, by decide +kernel⟩, by decide +kernel⟩
abbrev kX6_wear : MI := (yX6_wear, cX6_wear, 4, (some .int))
theorem mok_X6_wear : MOK kX6_wear 3 := ⟨by decide +kernel, co_yX6_wear, ini_X6, ⟨by decide +kernel, by decide +kernel⟩, by decide +kernel⟩
abbrev kX5_putOn : MI := (yX5_putOn, cX5_putOn, 4, none)
theorem mok_X5_putOn : MOK kX5_putOn 3 := ⟨by decide +kernel, co_yX5_putOn, ini_X5, ⟨by decide +kernel, by decide +kernel⟩, by decide +kernel⟩
abbrev kX6_off : MI := (yX6_off, cX6_off, 3, (some .int))
theorem mok_X6_off : MOK kX6_off 1 := ⟨by decide +kernel, co_yX6_off, ini_X6, ⟨by decide +kernel, by decide +kernel⟩, by decide +kernel⟩
abbrev kX5_takeOff : MI := (yX5_takeOff, cX5_takeOff, 2, none)
theorem mok_X5_takeOff : MOK kX5_takeOff 1 := ⟨by decide +kernel, co_yX5_takeOff, ini_X5, ⟨by decide +kernel, by decide +kernel⟩, by decide +kernel⟩
abbrev kX6_hour : MI := (yX6_hour, cX6_hour, 1, (some .int))
theorem mok_X6_hour : MOK kX6_hour 0 := ⟨by decide +kernel, co_yX6_hour, ini_X6, ⟨by decide +kernel, by decide +kernel⟩, by decide +kernel⟩
abbrev kX6_hasShop : MI := (yX6_hasShop, cX6_hasShop, 1, (some .boolean))
theorem mok_X6_hasShop : MOK kX6_hasShop 0 := ⟨by decide +kernel, co_yX6_hasShop, ini_X6, ⟨by decide +kernel, by decide +kernel⟩, by decide +kernel⟩
abbrev kX5_passHour : MI := (yX5_passHour, cX5_passHour, 2, none)
theorem mok_X5_passHour : MOK kX5_passHour 0 := ⟨by decide +kernel, co_yX5_passHour, ini_X5, ⟨by decide +kernel, by decide +kernel⟩, by decide +kernel⟩
abbrev kX6_book : MI := (yX6_book, cX6_book, 4, (some .int))
theorem mok_X6_book : MOK kX6_book 2 := ⟨by decide +kernel, co_yX6_book, ini_X6, ⟨by decide +kernel, by decide +kernel⟩, by decide +kernel⟩
abbrev kX6_wish : MI := (yX6_wish, cX6_wish, 5, (some .int))
theorem mok_X6_wish : MOK kX6_wish 3 := ⟨by decide +kernel, co_yX6_wish, ini_X6, ⟨by decide +kernel, by decide +kernel⟩, by decide +kernel⟩
abbrev kX6_mood : MI := (yX6_mood, cX6_mood, 3, (some .int))
theorem mok_X6_mood : MOK kX6_mood 2 := ⟨by decide +kernel, co_yX6_mood, ini_X6, ⟨by decide +kernel, by decide +kernel⟩, by decide +kernel⟩
abbrev kX6_dress : MI := (yX6_dress, cX6_dress, 2, (some .int))
theorem mok_X6_dress : MOK kX6_dress 1 := ⟨by decide +kernel, co_yX6_dress, ini_X6, ⟨by decide +kernel, by decide +kernel⟩, by decide +kernel⟩
abbrev kX6_asksOfGlove : MI := (yX6_asksOfGlove, cX6_asksOfGlove, 1, (some .boolean))
theorem mok_X6_asksOfGlove : MOK kX6_asksOfGlove 1 := ⟨by decide +kernel, co_yX6_asksOfGlove, ini_X6, ⟨by decide +kernel, by decide +kernel⟩, by decide +kernel⟩
abbrev kX2_find : MI := (yX2_find, cX2_find, 2, none)
theorem mok_X2_find : MOK kX2_find 1 := ⟨by decide +kernel, co_yX2_find, ini_X2, ⟨by decide +kernel, by decide +kernel⟩, by decide +kernel⟩
abbrev kX2_judgeSets : MI := (yX2_judgeSets, cX2_judgeSets, 5, none)
theorem mok_X2_judgeSets : MOK kX2_judgeSets 1 := ⟨by decide +kernel, co_yX2_judgeSets, ini_X2, ⟨by decide +kernel, by decide +kernel⟩, by decide +kernel⟩
abbrev kX2_give : MI := (yX2_give, cX2_give, 6, none)
theorem mok_X2_give : MOK kX2_give 4 := ⟨by decide +kernel, co_yX2_give, ini_X2, ⟨by decide +kernel, by decide +kernel⟩, by decide +kernel⟩
abbrev kX2_keepIfBetter : MI := (yX2_keepIfBetter, cX2_keepIfBetter, 5, none)
theorem mok_X2_keepIfBetter : MOK kX2_keepIfBetter 2 := ⟨by decide +kernel, co_yX2_keepIfBetter, ini_X2, ⟨by decide +kernel, by decide +kernel⟩, by decide +kernel⟩
abbrev kX6_copyRow : MI := (yX6_copyRow, cX6_copyRow, 2, none)
theorem mok_X6_copyRow : MOK kX6_copyRow 2 := ⟨by decide +kernel, co_yX6_copyRow, ini_X6, ⟨by decide +kernel, by decide +kernel⟩, by decide +kernel⟩
abbrev kX6_boxes : MI := (yX6_boxes, cX6_boxes, 2, (some .int))
theorem mok_X6_boxes : MOK kX6_boxes 1 := ⟨by decide +kernel, co_yX6_boxes, ini_X6, ⟨by decide +kernel, by decide +kernel⟩, by decide +kernel⟩
abbrev kX3_find : MI := (yX3_find, cX3_find, 3, none)
theorem mok_X3_find : MOK kX3_find 1 := ⟨by decide +kernel, co_yX3_find, ini_X3, ⟨by decide +kernel, by decide +kernel⟩, by decide +kernel⟩
abbrev kX3_pack : MI := (yX3_pack, cX3_pack, 6, none)
theorem mok_X3_pack : MOK kX3_pack 4 := ⟨by decide +kernel, co_yX3_pack, ini_X3, ⟨by decide +kernel, by decide +kernel⟩, by decide +kernel⟩
abbrev kX6_odds : MI := (yX6_odds, cX6_odds, 9, (some .int))
theorem mok_X6_odds : MOK kX6_odds 4 := ⟨by decide +kernel, co_yX6_odds, ini_X6, ⟨by decide +kernel, by decide +kernel⟩, by decide +kernel⟩
abbrev kX0_spread : MI := (yX0_spread, cX0_spread, 5, none)
theorem mok_X0_spread : MOK kX0_spread 2 := ⟨by decide +kernel, co_yX0_spread, ini_X0, ⟨by decide +kernel, by decide +kernel⟩, by decide +kernel⟩
abbrev kX6_commonDivisor : MI := (yX6_commonDivisor, cX6_commonDivisor, 6, (some .int))
theorem mok_X6_commonDivisor : MOK kX6_commonDivisor 2 := ⟨by decide +kernel, co_yX6_commonDivisor, ini_X6, ⟨by decide +kernel, by decide +kernel⟩, by decide +kernel⟩
abbrev kX6_see : MI := (yX6_see, cX6_see, 4, (some .int))
theorem mok_X6_see : MOK kX6_see 3 := ⟨by decide +kernel, co_yX6_see, ini_X6, ⟨by decide +kernel, by decide +kernel⟩, by decide +kernel⟩
abbrev kX5_addSeen : MI := (yX5_addSeen, cX5_addSeen, 4, (some .boolean))
theorem mok_X5_addSeen : MOK kX5_addSeen 3 := ⟨by decide +kernel, co_yX5_addSeen, ini_X5, ⟨by decide +kernel, by decide +kernel⟩, by decide +kernel⟩
abbrev kX6_forget : MI := (yX6_forget, cX6_forget, 2, (some .int))
theorem mok_X6_forget : MOK kX6_forget 0 := ⟨by decide +kernel, co_yX6_forget, ini_X6, ⟨by decide +kernel, by decide +kernel⟩, by decide +kernel⟩
abbrev kX6_teas : MI := (yX6_teas, cX6_teas, 6, (some .int))
theorem mok_X6_teas : MOK kX6_teas 3 := ⟨by decide +kernel, co_yX6_teas, ini_X6, ⟨by decide +kernel, by decide +kernel⟩, by decide +kernel⟩
abbrev kX5_copyFrom : MI := (yX5_copyFrom, cX5_copyFrom, 2, none)
theorem mok_X5_copyFrom : MOK kX5_copyFrom 1 := ⟨by decide +kernel, co_yX5_copyFrom, ini_X5, ⟨by decide +kernel, by decide +kernel⟩, by decide +kernel⟩
abbrev kX5_changeByDraws : MI := (yX5_changeByDraws, cX5_changeByDraws, 5, none)
theorem mok_X5_changeByDraws : MOK kX5_changeByDraws 1 := ⟨by decide +kernel, co_yX5_changeByDraws, ini_X5, ⟨by decide +kernel, by decide +kernel⟩, by decide +kernel⟩
abbrev kX1_next : MI := (yX1_next, cX1_next, 2, (some .int))
theorem mok_X1_next : MOK kX1_next 1 := ⟨by decide +kernel, co_yX1_next, ini_X1, ⟨by decide +kernel, by decide +kernel⟩, by decide +kernel⟩
abbrev kX5_countDoing : MI := (yX5_countDoing, cX5_countDoing, 4, (some .int))
theorem mok_X5_countDoing : MOK kX5_countDoing 1 := ⟨by decide +kernel, co_yX5_countDoing, ini_X5, ⟨by decide +kernel, by decide +kernel⟩, by decide +kernel⟩
abbrev kX5_countOnHands : MI := (yX5_countOnHands, cX5_countOnHands, 1, (some .int))
theorem mok_X5_countOnHands : MOK kX5_countOnHands 0 := ⟨by decide +kernel, co_yX5_countOnHands, ini_X5, ⟨by decide +kernel, by decide +kernel⟩, by decide +kernel⟩
abbrev kX6_image : MI := (yX6_image, cX6_image, 1, (some .int))
theorem mok_X6_image : MOK kX6_image 0 := ⟨by decide +kernel, co_yX6_image, ini_X6, ⟨by decide +kernel, by decide +kernel⟩, by decide +kernel⟩
abbrev kX6_restore : MI := (yX6_restore, cX6_restore, 1, (some .int))
theorem mok_X6_restore : MOK kX6_restore 0 := ⟨by decide +kernel, co_yX6_restore, ini_X6, ⟨by decide +kernel, by decide +kernel⟩, by decide +kernel⟩
abbrev kX6_count : MI := (yX6_count, cX6_count, 2, (some .int))
theorem mok_X6_count : MOK kX6_count 1 := ⟨by decide +kernel, co_yX6_count, ini_X6, ⟨by decide +kernel, by decide +kernel⟩, by decide +kernel⟩
abbrev kX5_countPleased : MI := (yX5_countPleased, cX5_countPleased, 3, (some .int))
theorem mok_X5_countPleased : MOK kX5_countPleased 0 := ⟨by decide +kernel, co_yX5_countPleased, ini_X5, ⟨by decide +kernel, by decide +kernel⟩, by decide +kernel⟩
abbrev kX5_countQuarrels : MI := (yX5_countQuarrels, cX5_countQuarrels, 3, (some .int))
theorem mok_X5_countQuarrels : MOK kX5_countQuarrels 0 := ⟨by decide +kernel, co_yX5_countQuarrels, ini_X5, ⟨by decide +kernel, by decide +kernel⟩, by decide +kernel⟩
abbrev kX5_sumOfTempers : MI := (yX5_sumOfTempers, cX5_sumOfTempers, 3, (some .int))
theorem mok_X5_sumOfTempers : MOK kX5_sumOfTempers 0 := ⟨by decide +kernel, co_yX5_sumOfTempers, ini_X5, ⟨by decide +kernel, by decide +kernel⟩, by decide +kernel⟩
abbrev kX6_digest : MI := (yX6_digest, cX6_digest, 5, (some .long))
theorem mok_X6_digest : MOK kX6_digest 0 := ⟨by decide +kernel, co_yX6_digest, ini_X6, ⟨by decide +kernel, by decide +kernel⟩, by decide +kernel⟩
abbrev kX6_digestOfWearer : MI := (yX6_digestOfWearer, cX6_digestOfWearer, 7, (some .long))
theorem mok_X6_digestOfWearer : MOK kX6_digestOfWearer 2 := ⟨by decide +kernel, co_yX6_digestOfWearer, ini_X6, ⟨by decide +kernel, by decide +kernel⟩, by decide +kernel⟩
abbrev kX6_digestOfBoxes : MI := (yX6_digestOfBoxes, cX6_digestOfBoxes, 6, (some .long))
theorem mok_X6_digestOfBoxes : MOK kX6_digestOfBoxes 1 := ⟨by decide +kernel, co_yX6_digestOfBoxes, ini_X6, ⟨by decide +kernel, by decide +kernel⟩, by decide +kernel⟩
abbrev kX7_init : MI := (yX7_init, cX7_init, 1, none)
theorem mok_X7_init : MOK kX7_init 0 := ⟨by decide +kernel, co_yX7_init, ini_X7, ⟨by decide +kernel, by decide +kernel⟩, by decide +kernel⟩
abbrev kX7_letter : MI := (yX7_letter, cX7_letter, 2, (some .int))
theorem mok_X7_letter : MOK kX7_letter 1 := ⟨by decide +kernel, co_yX7_letter, ini_X7, ⟨by decide +kernel, by decide +kernel⟩, by decide +kernel⟩
abbrev kX7_within : MI := (yX7_within, cX7_within, 3, (some .boolean))
theorem mok_X7_within : MOK kX7_within 3 := ⟨by decide +kernel, co_yX7_within, ini_X7, ⟨by decide +kernel, by decide +kernel⟩, by decide +kernel⟩
abbrev kX7_blank : MI := (yX7_blank, cX7_blank, 2, (some .int))
theorem mok_X7_blank : MOK kX7_blank 0 := ⟨by decide +kernel, co_yX7_blank, ini_X7, ⟨by decide +kernel, by decide +kernel⟩, by decide +kernel⟩
abbrev kX7_fault : MI := (yX7_fault, cX7_fault, 1, (some .int))
theorem mok_X7_fault : MOK kX7_fault 0 := ⟨by decide +kernel, co_yX7_fault, ini_X7, ⟨by decide +kernel, by decide +kernel⟩, by decide +kernel⟩
abbrev kX7_read : MI := (yX7_read, cX7_read, 2, (some .int))
theorem mok_X7_read : MOK kX7_read 0 := ⟨by decide +kernel, co_yX7_read, ini_X7, ⟨by decide +kernel, by decide +kernel⟩, by decide +kernel⟩
abbrev kX7_at : MI := (yX7_at, cX7_at, 2, (some .int))
theorem mok_X7_at : MOK kX7_at 1 := ⟨by decide +kernel, co_yX7_at, ini_X7, ⟨by decide +kernel, by decide +kernel⟩, by decide +kernel⟩
abbrev kX7_kindBy : MI := (yX7_kindBy, cX7_kindBy, 1, (some .int))
theorem mok_X7_kindBy : MOK kX7_kindBy 1 := ⟨by decide +kernel, co_yX7_kindBy, ini_X7, ⟨by decide +kernel, by decide +kernel⟩, by decide +kernel⟩
abbrev kX7_isFigure : MI := (yX7_isFigure, cX7_isFigure, 2, (some .boolean))
theorem mok_X7_isFigure : MOK kX7_isFigure 1 := ⟨by decide +kernel, co_yX7_isFigure, ini_X7, ⟨by decide +kernel, by decide +kernel⟩, by decide +kernel⟩
abbrev kX7_readWearers : MI := (yX7_readWearers, cX7_readWearers, 3, (some .int))
theorem mok_X7_readWearers : MOK kX7_readWearers 1 := ⟨by decide +kernel, co_yX7_readWearers, ini_X7, ⟨by decide +kernel, by decide +kernel⟩, by decide +kernel⟩
abbrev kX7_shop : MI := (yX7_shop, cX7_shop, 2, (some .int))
theorem mok_X7_shop : MOK kX7_shop 0 := ⟨by decide +kernel, co_yX7_shop, ini_X7, ⟨by decide +kernel, by decide +kernel⟩, by decide +kernel⟩
abbrev kX7_glove : MI := (yX7_glove, cX7_glove, 3, (some .int))
theorem mok_X7_glove : MOK kX7_glove 2 := ⟨by decide +kernel, co_yX7_glove, ini_X7, ⟨by decide +kernel, by decide +kernel⟩, by decide +kernel⟩
abbrev kX7_isGlove : MI := (yX7_isGlove, cX7_isGlove, 2, (some .boolean))
theorem mok_X7_isGlove : MOK kX7_isGlove 1 := ⟨by decide +kernel, co_yX7_isGlove, ini_X7, ⟨by decide +kernel, by decide +kernel⟩, by decide +kernel⟩
abbrev kX7_gloveNow : MI := (yX7_gloveNow, cX7_gloveNow, 3, (some .int))
theorem mok_X7_gloveNow : MOK kX7_gloveNow 2 := ⟨by decide +kernel, co_yX7_gloveNow, ini_X7, ⟨by decide +kernel, by decide +kernel⟩, by decide +kernel⟩
abbrev kX7_temperBehind : MI := (yX7_temperBehind, cX7_temperBehind, 3, (some .int))
theorem mok_X7_temperBehind : MOK kX7_temperBehind 2 := ⟨by decide +kernel, co_yX7_temperBehind, ini_X7, ⟨by decide +kernel, by decide +kernel⟩, by decide +kernel⟩
abbrev kX7_aged : MI := (yX7_aged, cX7_aged, 3, (some .int))
theorem mok_X7_aged : MOK kX7_aged 2 := ⟨by decide +kernel, co_yX7_aged, ini_X7, ⟨by decide +kernel, by decide +kernel⟩, by decide +kernel⟩
abbrev kX7_temperBy : MI := (yX7_temperBy, cX7_temperBy, 4, (some .int))
theorem mok_X7_temperBy : MOK kX7_temperBy 3 := ⟨by decide +kernel, co_yX7_temperBy, ini_X7, ⟨by decide +kernel, by decide +kernel⟩, by decide +kernel⟩
abbrev kX7_quarrels : MI := (yX7_quarrels, cX7_quarrels, 4, (some .int))
theorem mok_X7_quarrels : MOK kX7_quarrels 1 := ⟨by decide +kernel, co_yX7_quarrels, ini_X7, ⟨by decide +kernel, by decide +kernel⟩, by decide +kernel⟩
abbrev kX7_quarrel : MI := (yX7_quarrel, cX7_quarrel, 5, (some .boolean))
theorem mok_X7_quarrel : MOK kX7_quarrel 3 := ⟨by decide +kernel, co_yX7_quarrel, ini_X7, ⟨by decide +kernel, by decide +kernel⟩, by decide +kernel⟩
abbrev kX7_marksOf : MI := (yX7_marksOf, cX7_marksOf, 6, (some .int))
theorem mok_X7_marksOf : MOK kX7_marksOf 1 := ⟨by decide +kernel, co_yX7_marksOf, ini_X7, ⟨by decide +kernel, by decide +kernel⟩, by decide +kernel⟩
abbrev kX7_feelFor : MI := (yX7_feelFor, cX7_feelFor, 7, (some .int))
theorem mok_X7_feelFor : MOK kX7_feelFor 1 := ⟨by decide +kernel, co_yX7_feelFor, ini_X7, ⟨by decide +kernel, by decide +kernel⟩, by decide +kernel⟩
abbrev kX7_worstBy : MI := (yX7_worstBy, cX7_worstBy, 8, (some .int))
theorem mok_X7_worstBy : MOK kX7_worstBy 3 := ⟨by decide +kernel, co_yX7_worstBy, ini_X7, ⟨by decide +kernel, by decide +kernel⟩, by decide +kernel⟩
abbrev kX7_isIn : MI := (yX7_isIn, cX7_isIn, 2, (some .boolean))
theorem mok_X7_isIn : MOK kX7_isIn 2 := ⟨by decide +kernel, co_yX7_isIn, ini_X7, ⟨by decide +kernel, by decide +kernel⟩, by decide +kernel⟩
abbrev kX7_as : MI := (yX7_as, cX7_as, 4, (some .int))
theorem mok_X7_as : MOK kX7_as 2 := ⟨by decide +kernel, co_yX7_as, ini_X7, ⟨by decide +kernel, by decide +kernel⟩, by decide +kernel⟩
abbrev kX7_wearer : MI := (yX7_wearer, cX7_wearer, 3, (some .int))
theorem mok_X7_wearer : MOK kX7_wearer 2 := ⟨by decide +kernel, co_yX7_wearer, ini_X7, ⟨by decide +kernel, by decide +kernel⟩, by decide +kernel⟩
abbrev kX7_isWearer : MI := (yX7_isWearer, cX7_isWearer, 2, (some .boolean))
theorem mok_X7_isWearer : MOK kX7_isWearer 1 := ⟨by decide +kernel, co_yX7_isWearer, ini_X7, ⟨by decide +kernel, by decide +kernel⟩, by decide +kernel⟩
abbrev kX7_wearerNow : MI := (yX7_wearerNow, cX7_wearerNow, 3, (some .int))
theorem mok_X7_wearerNow : MOK kX7_wearerNow 2 := ⟨by decide +kernel, co_yX7_wearerNow, ini_X7, ⟨by decide +kernel, by decide +kernel⟩, by decide +kernel⟩
abbrev kX7_moodNow : MI := (yX7_moodNow, cX7_moodNow, 2, (some .int))
theorem mok_X7_moodNow : MOK kX7_moodNow 1 := ⟨by decide +kernel, co_yX7_moodNow, ini_X7, ⟨by decide +kernel, by decide +kernel⟩, by decide +kernel⟩
abbrev kX7_wornBy : MI := (yX7_wornBy, cX7_wornBy, 4, (some .int))
theorem mok_X7_wornBy : MOK kX7_wornBy 1 := ⟨by decide +kernel, co_yX7_wornBy, ini_X7, ⟨by decide +kernel, by decide +kernel⟩, by decide +kernel⟩
abbrev kX7_moodWith : MI := (yX7_moodWith, cX7_moodWith, 8, (some .int))
theorem mok_X7_moodWith : MOK kX7_moodWith 3 := ⟨by decide +kernel, co_yX7_moodWith, ini_X7, ⟨by decide +kernel, by decide +kernel⟩, by decide +kernel⟩
abbrev kX7_onHand : MI := (yX7_onHand, cX7_onHand, 4, (some .int))
theorem mok_X7_onHand : MOK kX7_onHand 1 := ⟨by decide +kernel, co_yX7_onHand, ini_X7, ⟨by decide +kernel, by decide +kernel⟩, by decide +kernel⟩
abbrev kX7_doesBy : MI := (yX7_doesBy, cX7_doesBy, 1, (some .int))
theorem mok_X7_doesBy : MOK kX7_doesBy 1 := ⟨by decide +kernel, co_yX7_doesBy, ini_X7, ⟨by decide +kernel, by decide +kernel⟩, by decide +kernel⟩
abbrev kX7_isWished : MI := (yX7_isWished, cX7_isWished, 3, (some .boolean))
theorem mok_X7_isWished : MOK kX7_isWished 2 := ⟨by decide +kernel, co_yX7_isWished, ini_X7, ⟨by decide +kernel, by decide +kernel⟩, by decide +kernel⟩
abbrev kX7_changesNow : MI := (yX7_changesNow, cX7_changesNow, 9, (some .int))
theorem mok_X7_changesNow : MOK kX7_changesNow 2 := ⟨by decide +kernel, co_yX7_changesNow, ini_X7, ⟨by decide +kernel, by decide +kernel⟩, by decide +kernel⟩
abbrev kX7_size : MI := (yX7_size, cX7_size, 3, (some .int))
theorem mok_X7_size : MOK kX7_size 1 := ⟨by decide +kernel, co_yX7_size, ini_X7, ⟨by decide +kernel, by decide +kernel⟩, by decide +kernel⟩
abbrev kX7_wear : MI := (yX7_wear, cX7_wear, 4, (some .int))
theorem mok_X7_wear : MOK kX7_wear 3 := ⟨by decide +kernel, co_yX7_wear, ini_X7, ⟨by decide +kernel, by decide +kernel⟩, by decide +kernel⟩
abbrev kX7_off : MI := (yX7_off, cX7_off, 3, (some .int))
theorem mok_X7_off : MOK kX7_off 1 := ⟨by decide +kernel, co_yX7_off, ini_X7, ⟨by decide +kernel, by decide +kernel⟩, by decide +kernel⟩
abbrev kX7_hour : MI := (yX7_hour, cX7_hour, 1, (some .int))
theorem mok_X7_hour : MOK kX7_hour 0 := ⟨by decide +kernel, co_yX7_hour, ini_X7, ⟨by decide +kernel, by decide +kernel⟩, by decide +kernel⟩
abbrev kX7_goBy : MI := (yX7_goBy, cX7_goBy, 2, none)
theorem mok_X7_goBy : MOK kX7_goBy 0 := ⟨by decide +kernel, co_yX7_goBy, ini_X7, ⟨by decide +kernel, by decide +kernel⟩, by decide +kernel⟩
abbrev kX7_book : MI := (yX7_book, cX7_book, 4, (some .int))
theorem mok_X7_book : MOK kX7_book 2 := ⟨by decide +kernel, co_yX7_book, ini_X7, ⟨by decide +kernel, by decide +kernel⟩, by decide +kernel⟩
abbrev kX7_wish : MI := (yX7_wish, cX7_wish, 5, (some .int))
theorem mok_X7_wish : MOK kX7_wish 3 := ⟨by decide +kernel, co_yX7_wish, ini_X7, ⟨by decide +kernel, by decide +kernel⟩, by decide +kernel⟩
abbrev kX7_mood : MI := (yX7_mood, cX7_mood, 3, (some .int))
theorem mok_X7_mood : MOK kX7_mood 2 := ⟨by decide +kernel, co_yX7_mood, ini_X7, ⟨by decide +kernel, by decide +kernel⟩, by decide +kernel⟩
abbrev kX7_dress : MI := (yX7_dress, cX7_dress, 2, (some .int))
theorem mok_X7_dress : MOK kX7_dress 1 := ⟨by decide +kernel, co_yX7_dress, ini_X7, ⟨by decide +kernel, by decide +kernel⟩, by decide +kernel⟩
abbrev kX7_dressNow : MI := (yX7_dressNow, cX7_dressNow, 6, (some .int))
theorem mok_X7_dressNow : MOK kX7_dressNow 1 := ⟨by decide +kernel, co_yX7_dressNow, ini_X7, ⟨by decide +kernel, by decide +kernel⟩, by decide +kernel⟩
abbrev kX7_begin : MI := (yX7_begin, cX7_begin, 2, none)
theorem mok_X7_begin : MOK kX7_begin 0 := ⟨by decide +kernel, co_yX7_begin, ini_X7, ⟨by decide +kernel, by decide +kernel⟩, by decide +kernel⟩
abbrev kX7_wishedBy : MI := (yX7_wishedBy, cX7_wishedBy, 4, (some .int))
theorem mok_X7_wishedBy : MOK kX7_wishedBy 0 := ⟨by decide +kernel, co_yX7_wishedBy, ini_X7, ⟨by decide +kernel, by decide +kernel⟩, by decide +kernel⟩
abbrev kX7_givenTo : MI := (yX7_givenTo, cX7_givenTo, 4, (some .int))
theorem mok_X7_givenTo : MOK kX7_givenTo 1 := ⟨by decide +kernel, co_yX7_givenTo, ini_X7, ⟨by decide +kernel, by decide +kernel⟩, by decide +kernel⟩
abbrev kX7_given : MI := (yX7_given, cX7_given, 3, (some .int))
theorem mok_X7_given : MOK kX7_given 0 := ⟨by decide +kernel, co_yX7_given, ini_X7, ⟨by decide +kernel, by decide +kernel⟩, by decide +kernel⟩
abbrev kX7_keepRow : MI := (yX7_keepRow, cX7_keepRow, 3, none)
theorem mok_X7_keepRow : MOK kX7_keepRow 1 := ⟨by decide +kernel, co_yX7_keepRow, ini_X7, ⟨by decide +kernel, by decide +kernel⟩, by decide +kernel⟩
abbrev kX7_nextGiven : MI := (yX7_nextGiven, cX7_nextGiven, 2, (some .boolean))
theorem mok_X7_nextGiven : MOK kX7_nextGiven 0 := ⟨by decide +kernel, co_yX7_nextGiven, ini_X7, ⟨by decide +kernel, by decide +kernel⟩, by decide +kernel⟩
abbrev kX7_boxes : MI := (yX7_boxes, cX7_boxes, 2, (some .int))
theorem mok_X7_boxes : MOK kX7_boxes 1 := ⟨by decide +kernel, co_yX7_boxes, ini_X7, ⟨by decide +kernel, by decide +kernel⟩, by decide +kernel⟩
abbrev kX7_boxesNow : MI := (yX7_boxesNow, cX7_boxesNow, 4, (some .int))
theorem mok_X7_boxesNow : MOK kX7_boxesNow 1 := ⟨by decide +kernel, co_yX7_boxesNow, ini_X7, ⟨by decide +kernel, by decide +kernel⟩, by decide +kernel⟩
abbrev kX7_boxesAhead : MI := (yX7_boxesAhead, cX7_boxesAhead, 4, (some .int))
theorem mok_X7_boxesAhead : MOK kX7_boxesAhead 1 := ⟨by decide +kernel, co_yX7_boxesAhead, ini_X7, ⟨by decide +kernel, by decide +kernel⟩, by decide +kernel⟩
abbrev kX7_areQuiet : MI := (yX7_areQuiet, cX7_areQuiet, 4, (some .boolean))
theorem mok_X7_areQuiet : MOK kX7_areQuiet 0 := ⟨by decide +kernel, co_yX7_areQuiet, ini_X7, ⟨by decide +kernel, by decide +kernel⟩, by decide +kernel⟩
abbrev kX7_nextBoxes : MI := (yX7_nextBoxes, cX7_nextBoxes, 2, (some .boolean))
theorem mok_X7_nextBoxes : MOK kX7_nextBoxes 0 := ⟨by decide +kernel, co_yX7_nextBoxes, ini_X7, ⟨by decide +kernel, by decide +kernel⟩, by decide +kernel⟩
abbrev kX7_odds : MI := (yX7_odds, cX7_odds, 6, (some .int))
theorem mok_X7_odds : MOK kX7_odds 4 := ⟨by decide +kernel, co_yX7_odds, ini_X7, ⟨by decide +kernel, by decide +kernel⟩, by decide +kernel⟩
abbrev kX7_oddsNow : MI := (yX7_oddsNow, cX7_oddsNow, 11, (some .int))
theorem mok_X7_oddsNow : MOK kX7_oddsNow 4 := ⟨by decide +kernel, co_yX7_oddsNow, ini_X7, ⟨by decide +kernel, by decide +kernel⟩, by decide +kernel⟩
abbrev kX7_divisor : MI := (yX7_divisor, cX7_divisor, 5, (some .int))
theorem mok_X7_divisor : MOK kX7_divisor 2 := ⟨by decide +kernel, co_yX7_divisor, ini_X7, ⟨by decide +kernel, by decide +kernel⟩, by decide +kernel⟩
abbrev kX7_see : MI := (yX7_see, cX7_see, 4, (some .int))
theorem mok_X7_see : MOK kX7_see 3 := ⟨by decide +kernel, co_yX7_see, ini_X7, ⟨by decide +kernel, by decide +kernel⟩, by decide +kernel⟩
abbrev kX7_forget : MI := (yX7_forget, cX7_forget, 2, (some .int))
theorem mok_X7_forget : MOK kX7_forget 0 := ⟨by decide +kernel, co_yX7_forget, ini_X7, ⟨by decide +kernel, by decide +kernel⟩, by decide +kernel⟩
abbrev kX7_teas : MI := (yX7_teas, cX7_teas, 4, (some .int))
theorem mok_X7_teas : MOK kX7_teas 3 := ⟨by decide +kernel, co_yX7_teas, ini_X7, ⟨by decide +kernel, by decide +kernel⟩, by decide +kernel⟩
abbrev kX7_teasNow : MI := (yX7_teasNow, cX7_teasNow, 7, (some .int))
theorem mok_X7_teasNow : MOK kX7_teasNow 3 := ⟨by decide +kernel, co_yX7_teasNow, ini_X7, ⟨by decide +kernel, by decide +kernel⟩, by decide +kernel⟩
abbrev kX7_takeTea : MI := (yX7_takeTea, cX7_takeTea, 3, none)
theorem mok_X7_takeTea : MOK kX7_takeTea 0 := ⟨by decide +kernel, co_yX7_takeTea, ini_X7, ⟨by decide +kernel, by decide +kernel⟩, by decide +kernel⟩
abbrev kX7_draw : MI := (yX7_draw, cX7_draw, 2, (some .int))
theorem mok_X7_draw : MOK kX7_draw 1 := ⟨by decide +kernel, co_yX7_draw, ini_X7, ⟨by decide +kernel, by decide +kernel⟩, by decide +kernel⟩
abbrev kX7_butting : MI := (yX7_butting, cX7_butting, 3, (some .int))
theorem mok_X7_butting : MOK kX7_butting 0 := ⟨by decide +kernel, co_yX7_butting, ini_X7, ⟨by decide +kernel, by decide +kernel⟩, by decide +kernel⟩
abbrev kX7_onHands : MI := (yX7_onHands, cX7_onHands, 3, (some .int))
theorem mok_X7_onHands : MOK kX7_onHands 0 := ⟨by decide +kernel, co_yX7_onHands, ini_X7, ⟨by decide +kernel, by decide +kernel⟩, by decide +kernel⟩
abbrev kX7_image : MI := (yX7_image, cX7_image, 2, (some .int))
theorem mok_X7_image : MOK kX7_image 0 := ⟨by decide +kernel, co_yX7_image, ini_X7, ⟨by decide +kernel, by decide +kernel⟩, by decide +kernel⟩
abbrev kX7_restore : MI := (yX7_restore, cX7_restore, 2, (some .int))
theorem mok_X7_restore : MOK kX7_restore 0 := ⟨by decide +kernel, co_yX7_restore, ini_X7, ⟨by decide +kernel, by decide +kernel⟩, by decide +kernel⟩
abbrev kX7_count : MI := (yX7_count, cX7_count, 2, (some .int))
theorem mok_X7_count : MOK kX7_count 1 := ⟨by decide +kernel, co_yX7_count, ini_X7, ⟨by decide +kernel, by decide +kernel⟩, by decide +kernel⟩
abbrev kX7_howMany : MI := (yX7_howMany, cX7_howMany, 2, (some .int))
theorem mok_X7_howMany : MOK kX7_howMany 1 := ⟨by decide +kernel, co_yX7_howMany, ini_X7, ⟨by decide +kernel, by decide +kernel⟩, by decide +kernel⟩
abbrev kX7_ofWearers : MI := (yX7_ofWearers, cX7_ofWearers, 5, (some .int))
theorem mok_X7_ofWearers : MOK kX7_ofWearers 1 := ⟨by decide +kernel, co_yX7_ofWearers, ini_X7, ⟨by decide +kernel, by decide +kernel⟩, by decide +kernel⟩
abbrev kX7_ofGloves : MI := (yX7_ofGloves, cX7_ofGloves, 4, (some .int))
theorem mok_X7_ofGloves : MOK kX7_ofGloves 1 := ⟨by decide +kernel, co_yX7_ofGloves, ini_X7, ⟨by decide +kernel, by decide +kernel⟩, by decide +kernel⟩
abbrev kX7_digest : MI := (yX7_digest, cX7_digest, 3, (some .long))
theorem mok_X7_digest : MOK kX7_digest 0 := ⟨by decide +kernel, co_yX7_digest, ini_X7, ⟨by decide +kernel, by decide +kernel⟩, by decide +kernel⟩
abbrev kX7_mix : MI := (yX7_mix, cX7_mix, 3, none)
theorem mok_X7_mix : MOK kX7_mix 1 := ⟨by decide +kernel, co_yX7_mix, ini_X7, ⟨by decide +kernel, by decide +kernel⟩, by decide +kernel⟩
abbrev kX7_mixWearer : MI := (yX7_mixWearer, cX7_mixWearer, 3, none)
theorem mok_X7_mixWearer : MOK kX7_mixWearer 1 := ⟨by decide +kernel, co_yX7_mixWearer, ini_X7, ⟨by decide +kernel, by decide +kernel⟩, by decide +kernel⟩
theorem fok_X4_9 : FOK RX4 9 4 0 := ⟨RX4, TX4, 2, tyX4, rfl, by decide, inX4, fl_X4_9, tyX4_ok, nmX4, rfl, by decide +kernel, by decide +kernel, by decide +kernel, by decide +kernel⟩
theorem fok_X6_265 : FOK RX6 265 4 0 := ⟨RX4, TX4, 2, tyX4, rfl, by decide, inX4, fl_X6_265, tyX4_ok, nmX4, rfl, by decide +kernel, by decide +kernel, by decide +kernel, by decide +kernel⟩
theorem fok_X4_15 : FOK RX4 15 4 1 := ⟨RX4, TX4, 2, tyX4, rfl, by decide, inX4, fl_X4_15, tyX4_ok, nmX4, rfl, by decide +kernel, by decide +kernel, by decide +kernel, by decide +kernel⟩
theorem fok_X6_65 : FOK RX6 65 4 1 := ⟨RX4, TX4, 2, tyX4, rfl, by decide, inX4, fl_X6_65, tyX4_ok, nmX4, rfl, by decide +kernel, by decide +kernel, by decide +kernel, by decide +kernel⟩
theorem fok_X5_9 : FOK RX5 9 5 0 := ⟨RX5, TX5, 15, tyX5, rfl, by decide, inX5, fl_X5_9, tyX5_ok, nmX5, rfl, by decide +kernel, by decide +kernel, by decide +kernel, by decide +kernel⟩
theorem fok_X6_94 : FOK RX6 94 5 0 := ⟨RX5, TX5, 15, tyX5, rfl, by decide, inX5, fl_X6_94, tyX5_ok, nmX5, rfl, by decide +kernel, by decide +kernel, by decide +kernel, by decide +kernel⟩
theorem fok_X4_62 : FOK RX4 62 5 0 := ⟨RX5, TX5, 15, tyX5, rfl, by decide, inX5, fl_X4_62, tyX5_ok, nmX5, rfl, by decide +kernel, by decide +kernel, by decide +kernel, by decide +kernel⟩
theorem fok_X5_15 : FOK RX5 15 5 1 := ⟨RX5, TX5, 15, tyX5, rfl, by decide, inX5, fl_X5_15, tyX5_ok, nmX5, rfl, by decide +kernel, by decide +kernel, by decide +kernel, by decide +kernel⟩
theorem fok_X6_102 : FOK RX6 102 5 1 := ⟨RX5, TX5, 15, tyX5, rfl, by decide, inX5, fl_X6_102, tyX5_ok, nmX5, rfl, by decide +kernel, by decide +kernel, by decide +kernel, by decide +kernel⟩
theorem fok_X4_65 : FOK RX4 65 5 1 := ⟨RX5, TX5, 15, tyX5, rfl, by decide, inX5, fl_X4_65, tyX5_ok, nmX5, rfl, by decide +kernel, by decide +kernel, by decide +kernel, by decide +kernel⟩
theorem fok_X5_18 : FOK RX5 18 5 2 := ⟨RX5, TX5, 15, tyX5, rfl, by decide, inX5, fl_X5_18, tyX5_ok, nmX5, rfl, by decide +kernel, by decide +kernel, by decide +kernel, by decide +kernel⟩
theorem fok_X6_105 : FOK RX6 105 5 2 := ⟨RX5, TX5, 15, tyX5, rfl, by decide, inX5, fl_X6_105, tyX5_ok, nmX5, rfl, by decide +kernel, by decide +kernel, by decide +kernel, by decide +kernel⟩
theorem fok_X5_21 : FOK RX5 21 5 3 := ⟨RX5, TX5, 15, tyX5, rfl, by decide, inX5, fl_X5_21, tyX5_ok, nmX5, rfl, by decide +kernel, by decide +kernel, by decide +kernel, by decide +kernel⟩
theorem fok_X6_112 : FOK RX6 112 5 3 := ⟨RX5, TX5, 15, tyX5, rfl, by decide, inX5, fl_X6_112, tyX5_ok, nmX5, rfl, by decide +kernel, by decide +kernel, by decide +kernel, by decide +kernel⟩
theorem fok_X5_24 : FOK RX5 24 5 4 := ⟨RX5, TX5, 15, tyX5, rfl, by decide, inX5, fl_X5_24, tyX5_ok, nmX5, rfl, by decide +kernel, by decide +kernel, by decide +kernel, by decide +kernel⟩
theorem fok_X6_115 : FOK RX6 115 5 4 := ⟨RX5, TX5, 15, tyX5, rfl, by decide, inX5, fl_X6_115, tyX5_ok, nmX5, rfl, by decide +kernel, by decide +kernel, by decide +kernel, by decide +kernel⟩
theorem fok_X5_27 : FOK RX5 27 5 5 := ⟨RX5, TX5, 15, tyX5, rfl, by decide, inX5, fl_X5_27, tyX5_ok, nmX5, rfl, by decide +kernel, by decide +kernel, by decide +kernel, by decide +kernel⟩
theorem fok_X6_135 : FOK RX6 135 5 5 := ⟨RX5, TX5, 15, tyX5, rfl, by decide, inX5, fl_X6_135, tyX5_ok, nmX5, rfl, by decide +kernel, by decide +kernel, by decide +kernel, by decide +kernel⟩
theorem fok_X4_71 : FOK RX4 71 5 5 := ⟨RX5, TX5, 15, tyX5, rfl, by decide, inX5, fl_X4_71, tyX5_ok, nmX5, rfl, by decide +kernel, by decide +kernel, by decide +kernel, by decide +kernel⟩
theorem fok_X5_30 : FOK RX5 30 5 6 := ⟨RX5, TX5, 15, tyX5, rfl, by decide, inX5, fl_X5_30, tyX5_ok, nmX5, rfl, by decide +kernel, by decide +kernel, by decide +kernel, by decide +kernel⟩
theorem fok_X6_147 : FOK RX6 147 5 6 := ⟨RX5, TX5, 15, tyX5, rfl, by decide, inX5, fl_X6_147, tyX5_ok, nmX5, rfl, by decide +kernel, by decide +kernel, by decide +kernel, by decide +kernel⟩
theorem fok_X5_33 : FOK RX5 33 5 7 := ⟨RX5, TX5, 15, tyX5, rfl, by decide, inX5, fl_X5_33, tyX5_ok, nmX5, rfl, by decide +kernel, by decide +kernel, by decide +kernel, by decide +kernel⟩
theorem fok_X5_36 : FOK RX5 36 5 8 := ⟨RX5, TX5, 15, tyX5, rfl, by decide, inX5, fl_X5_36, tyX5_ok, nmX5, rfl, by decide +kernel, by decide +kernel, by decide +kernel, by decide +kernel⟩
theorem fok_X5_39 : FOK RX5 39 5 9 := ⟨RX5, TX5, 15, tyX5, rfl, by decide, inX5, fl_X5_39, tyX5_ok, nmX5, rfl, by decide +kernel, by decide +kernel, by decide +kernel, by decide +kernel⟩
theorem fok_X5_42 : FOK RX5 42 5 10 := ⟨RX5, TX5, 15, tyX5, rfl, by decide, inX5, fl_X5_42, tyX5_ok, nmX5, rfl, by decide +kernel, by decide +kernel, by decide +kernel, by decide +kernel⟩
theorem fok_X5_45 : FOK RX5 45 5 11 := ⟨RX5, TX5, 15, tyX5, rfl, by decide, inX5, fl_X5_45, tyX5_ok, nmX5, rfl, by decide +kernel, by decide +kernel, by decide +kernel, by decide +kernel⟩
theorem fok_X3_34 : FOK RX3 34 5 11 := ⟨RX5, TX5, 15, tyX5, rfl, by decide, inX5, fl_X3_34, tyX5_ok, nmX5, rfl, by decide +kernel, by decide +kernel, by decide +kernel, by decide +kernel⟩
theorem fok_X2_50 : FOK RX2 50 5 11 := ⟨RX5, TX5, 15, tyX5, rfl, by decide, inX5, fl_X2_50, tyX5_ok, nmX5, rfl, by decide +kernel, by decide +kernel, by decide +kernel, by decide +kernel⟩
theorem fok_X6_88 : FOK RX6 88 5 11 := ⟨RX5, TX5, 15, tyX5, rfl, by decide, inX5, fl_X6_88, tyX5_ok, nmX5, rfl, by decide +kernel, by decide +kernel, by decide +kernel, by decide +kernel⟩
theorem fok_X4_59 : FOK RX4 59 5 11 := ⟨RX5, TX5, 15, tyX5, rfl, by decide, inX5, fl_X4_59, tyX5_ok, nmX5, rfl, by decide +kernel, by decide +kernel, by decide +kernel, by decide +kernel⟩
theorem fok_X5_49 : FOK RX5 49 5 12 := ⟨RX5, TX5, 15, tyX5, rfl, by decide, inX5, fl_X5_49, tyX5_ok, nmX5, rfl, by decide +kernel, by decide +kernel, by decide +kernel, by decide +kernel⟩
theorem fok_X2_45 : FOK RX2 45 5 12 := ⟨RX5, TX5, 15, tyX5, rfl, by decide, inX5, fl_X2_45, tyX5_ok, nmX5, rfl, by decide +kernel, by decide +kernel, by decide +kernel, by decide +kernel⟩
theorem fok_X4_68 : FOK RX4 68 5 12 := ⟨RX5, TX5, 15, tyX5, rfl, by decide, inX5, fl_X4_68, tyX5_ok, nmX5, rfl, by decide +kernel, by decide +kernel, by decide +kernel, by decide +kernel⟩
theorem fok_X6_238 : FOK RX6 238 5 12 := ⟨RX5, TX5, 15, tyX5, rfl, by decide, inX5, fl_X6_238, tyX5_ok, nmX5, rfl, by decide +kernel, by decide +kernel, by decide +kernel, by decide +kernel⟩
theorem fok_X5_52 : FOK RX5 52 5 13 := ⟨RX5, TX5, 15, tyX5, rfl, by decide, inX5, fl_X5_52, tyX5_ok, nmX5, rfl, by decide +kernel, by decide +kernel, by decide +kernel, by decide +kernel⟩
theorem fok_X6_170 : FOK RX6 170 5 13 := ⟨RX5, TX5, 15, tyX5, rfl, by decide, inX5, fl_X6_170, tyX5_ok, nmX5, rfl, by decide +kernel, by decide +kernel, by decide +kernel, by decide +kernel⟩
theorem fok_X5_55 : FOK RX5 55 5 14 := ⟨RX5, TX5, 15, tyX5, rfl, by decide, inX5, fl_X5_55, tyX5_ok, nmX5, rfl, by decide +kernel, by decide +kernel, by decide +kernel, by decide +kernel⟩
theorem fok_X6_219 : FOK RX6 219 5 14 := ⟨RX5, TX5, 15, tyX5, rfl, by decide, inX5, fl_X6_219, tyX5_ok, nmX5, rfl, by decide +kernel, by decide +kernel, by decide +kernel, by decide +kernel⟩
theorem fok_X2_9 : FOK RX2 9 2 0 := ⟨RX2, TX2, 6, tyX2, rfl, by decide, inX2, fl_X2_9, tyX2_ok, nmX2, rfl, by decide +kernel, by decide +kernel, by decide +kernel, by decide +kernel⟩
theorem fok_X2_15 : FOK RX2 15 2 1 := ⟨RX2, TX2, 6, tyX2, rfl, by decide, inX2, fl_X2_15, tyX2_ok, nmX2, rfl, by decide +kernel, by decide +kernel, by decide +kernel, by decide +kernel⟩
theorem fok_X2_18 : FOK RX2 18 2 2 := ⟨RX2, TX2, 6, tyX2, rfl, by decide, inX2, fl_X2_18, tyX2_ok, nmX2, rfl, by decide +kernel, by decide +kernel, by decide +kernel, by decide +kernel⟩
theorem fok_X2_21 : FOK RX2 21 2 3 := ⟨RX2, TX2, 6, tyX2, rfl, by decide, inX2, fl_X2_21, tyX2_ok, nmX2, rfl, by decide +kernel, by decide +kernel, by decide +kernel, by decide +kernel⟩
theorem fok_X6_195 : FOK RX6 195 2 3 := ⟨RX2, TX2, 6, tyX2, rfl, by decide, inX2, fl_X6_195, tyX2_ok, nmX2, rfl, by decide +kernel, by decide +kernel, by decide +kernel, by decide +kernel⟩
theorem fok_X2_30 : FOK RX2 30 2 4 := ⟨RX2, TX2, 6, tyX2, rfl, by decide, inX2, fl_X2_30, tyX2_ok, nmX2, rfl, by decide +kernel, by decide +kernel, by decide +kernel, by decide +kernel⟩
theorem fok_X6_189 : FOK RX6 189 2 4 := ⟨RX2, TX2, 6, tyX2, rfl, by decide, inX2, fl_X6_189, tyX2_ok, nmX2, rfl, by decide +kernel, by decide +kernel, by decide +kernel, by decide +kernel⟩
theorem fok_X2_34 : FOK RX2 34 2 5 := ⟨RX2, TX2, 6, tyX2, rfl, by decide, inX2, fl_X2_34, tyX2_ok, nmX2, rfl, by decide +kernel, by decide +kernel, by decide +kernel, by decide +kernel⟩
theorem fok_X6_192 : FOK RX6 192 2 5 := ⟨RX2, TX2, 6, tyX2, rfl, by decide, inX2, fl_X6_192, tyX2_ok, nmX2, rfl, by decide +kernel, by decide +kernel, by decide +kernel, by decide +kernel⟩
theorem fok_X3_9 : FOK RX3 9 3 0 := ⟨RX3, TX3, 5, tyX3, rfl, by decide, inX3, fl_X3_9, tyX3_ok, nmX3, rfl, by decide +kernel, by decide +kernel, by decide +kernel, by decide +kernel⟩
theorem fok_X3_15 : FOK RX3 15 3 1 := ⟨RX3, TX3, 5, tyX3, rfl, by decide, inX3, fl_X3_15, tyX3_ok, nmX3, rfl, by decide +kernel, by decide +kernel, by decide +kernel, by decide +kernel⟩
theorem fok_X3_18 : FOK RX3 18 3 2 := ⟨RX3, TX3, 5, tyX3, rfl, by decide, inX3, fl_X3_18, tyX3_ok, nmX3, rfl, by decide +kernel, by decide +kernel, by decide +kernel, by decide +kernel⟩
theorem fok_X3_21 : FOK RX3 21 3 3 := ⟨RX3, TX3, 5, tyX3, rfl, by decide, inX3, fl_X3_21, tyX3_ok, nmX3, rfl, by decide +kernel, by decide +kernel, by decide +kernel, by decide +kernel⟩
theorem fok_X6_202 : FOK RX6 202 3 3 := ⟨RX3, TX3, 5, tyX3, rfl, by decide, inX3, fl_X6_202, tyX3_ok, nmX3, rfl, by decide +kernel, by decide +kernel, by decide +kernel, by decide +kernel⟩
theorem fok_X3_30 : FOK RX3 30 3 4 := ⟨RX3, TX3, 5, tyX3, rfl, by decide, inX3, fl_X3_30, tyX3_ok, nmX3, rfl, by decide +kernel, by decide +kernel, by decide +kernel, by decide +kernel⟩
theorem fok_X6_199 : FOK RX6 199 3 4 := ⟨RX3, TX3, 5, tyX3, rfl, by decide, inX3, fl_X6_199, tyX3_ok, nmX3, rfl, by decide +kernel, by decide +kernel, by decide +kernel, by decide +kernel⟩
theorem fok_X0_9 : FOK RX0 9 0 0 := ⟨RX0, TX0, 2, tyX0, rfl, by decide, inX0, fl_X0_9, tyX0_ok, nmX0, rfl, by decide +kernel, by decide +kernel, by decide +kernel, by decide +kernel⟩
theorem fok_X6_207 : FOK RX6 207 0 0 := ⟨RX0, TX0, 2, tyX0, rfl, by decide, inX0, fl_X6_207, tyX0_ok, nmX0, rfl, by decide +kernel, by decide +kernel, by decide +kernel, by decide +kernel⟩
theorem fok_X0_25 : FOK RX0 25 0 1 := ⟨RX0, TX0, 2, tyX0, rfl, by decide, inX0, fl_X0_25, tyX0_ok, nmX0, rfl, by decide +kernel, by decide +kernel, by decide +kernel, by decide +kernel⟩
theorem fok_X6_210 : FOK RX6 210 0 1 := ⟨RX0, TX0, 2, tyX0, rfl, by decide, inX0, fl_X6_210, tyX0_ok, nmX0, rfl, by decide +kernel, by decide +kernel, by decide +kernel, by decide +kernel⟩
theorem fok_X1_9 : FOK RX1 9 1 0 := ⟨RX1, TX1, 1, tyX1, rfl, by decide, inX1, fl_X1_9, tyX1_ok, nmX1, rfl, by decide +kernel, by decide +kernel, by decide +kernel, by decide +kernel⟩
theorem fok_X6_225 : FOK RX6 225 1 0 := ⟨RX1, TX1, 1, tyX1, rfl, by decide, inX1, fl_X6_225, tyX1_ok, nmX1, rfl, by decide +kernel, by decide +kernel, by decide +kernel, by decide +kernel⟩
theorem fok_X6_12 : FOK RX6 12 6 0 := ⟨RX6, TX6, 11, tyX6, rfl, by decide, inX6, fl_X6_12, tyX6_ok, nmX6, rfl, by decide +kernel, by decide +kernel, by decide +kernel, by decide +kernel⟩
theorem fok_X6_19 : FOK RX6 19 6 1 := ⟨RX6, TX6, 11, tyX6, rfl, by decide, inX6, fl_X6_19, tyX6_ok, nmX6, rfl, by decide +kernel, by decide +kernel, by decide +kernel, by decide +kernel⟩
theorem fok_X6_23 : FOK RX6 23 6 2 := ⟨RX6, TX6, 11, tyX6, rfl, by decide, inX6, fl_X6_23, tyX6_ok, nmX6, rfl, by decide +kernel, by decide +kernel, by decide +kernel, by decide +kernel⟩
theorem fok_X6_26 : FOK RX6 26 6 3 := ⟨RX6, TX6, 11, tyX6, rfl, by decide, inX6, fl_X6_26, tyX6_ok, nmX6, rfl, by decide +kernel, by decide +kernel, by decide +kernel, by decide +kernel⟩
theorem fok_X6_32 : FOK RX6 32 6 4 := ⟨RX6, TX6, 11, tyX6, rfl, by decide, inX6, fl_X6_32, tyX6_ok, nmX6, rfl, by decide +kernel, by decide +kernel, by decide +kernel, by decide +kernel⟩
theorem fok_X6_39 : FOK RX6 39 6 5 := ⟨RX6, TX6, 11, tyX6, rfl, by decide, inX6, fl_X6_39, tyX6_ok, nmX6, rfl, by decide +kernel, by decide +kernel, by decide +kernel, by decide +kernel⟩
theorem fok_X6_46 : FOK RX6 46 6 6 := ⟨RX6, TX6, 11, tyX6, rfl, by decide, inX6, fl_X6_46, tyX6_ok, nmX6, rfl, by decide +kernel, by decide +kernel, by decide +kernel, by decide +kernel⟩
theorem fok_X6_53 : FOK RX6 53 6 7 := ⟨RX6, TX6, 11, tyX6, rfl, by decide, inX6, fl_X6_53, tyX6_ok, nmX6, rfl, by decide +kernel, by decide +kernel, by decide +kernel, by decide +kernel⟩
theorem fok_X6_81 : FOK RX6 81 6 8 := ⟨RX6, TX6, 11, tyX6, rfl, by decide, inX6, fl_X6_81, tyX6_ok, nmX6, rfl, by decide +kernel, by decide +kernel, by decide +kernel, by decide +kernel⟩
theorem fok_X6_85 : FOK RX6 85 6 9 := ⟨RX6, TX6, 11, tyX6, rfl, by decide, inX6, fl_X6_85, tyX6_ok, nmX6, rfl, by decide +kernel, by decide +kernel, by decide +kernel, by decide +kernel⟩
theorem fok_X6_183 : FOK RX6 183 6 10 := ⟨RX6, TX6, 11, tyX6, rfl, by decide, inX6, fl_X6_183, tyX6_ok, nmX6, rfl, by decide +kernel, by decide +kernel, by decide +kernel, by decide +kernel⟩
theorem fok_X7_122 : FOK RX7 122 7 0 := ⟨RX7, TX7, 38, tyX7, rfl, by decide, inX7, fl_X7_122, tyX7_ok, nmX7, rfl, by decide +kernel, by decide +kernel, by decide +kernel, by decide +kernel⟩
theorem fok_X7_113 : FOK RX7 113 7 1 := ⟨RX7, TX7, 38, tyX7, rfl, by decide, inX7, fl_X7_113, tyX7_ok, nmX7, rfl, by decide +kernel, by decide +kernel, by decide +kernel, by decide +kernel⟩
theorem fok_X7_116 : FOK RX7 116 7 2 := ⟨RX7, TX7, 38, tyX7, rfl, by decide, inX7, fl_X7_116, tyX7_ok, nmX7, rfl, by decide +kernel, by decide +kernel, by decide +kernel, by decide +kernel⟩
theorem fok_X7_7 : FOK RX7 7 7 3 := ⟨RX7, TX7, 38, tyX7, rfl, by decide, inX7, fl_X7_7, tyX7_ok, nmX7, rfl, by decide +kernel, by decide +kernel, by decide +kernel, by decide +kernel⟩
theorem fok_X7_13 : FOK RX7 13 7 4 := ⟨RX7, TX7, 38, tyX7, rfl, by decide, inX7, fl_X7_13, tyX7_ok, nmX7, rfl, by decide +kernel, by decide +kernel, by decide +kernel, by decide +kernel⟩
theorem fok_X7_16 : FOK RX7 16 7 5 := ⟨RX7, TX7, 38, tyX7, rfl, by decide, inX7, fl_X7_16, tyX7_ok, nmX7, rfl, by decide +kernel, by decide +kernel, by decide +kernel, by decide +kernel⟩
theorem fok_X7_19 : FOK RX7 19 7 6 := ⟨RX7, TX7, 38, tyX7, rfl, by decide, inX7, fl_X7_19, tyX7_ok, nmX7, rfl, by decide +kernel, by decide +kernel, by decide +kernel, by decide +kernel⟩
theorem fok_X7_22 : FOK RX7 22 7 7 := ⟨RX7, TX7, 38, tyX7, rfl, by decide, inX7, fl_X7_22, tyX7_ok, nmX7, rfl, by decide +kernel, by decide +kernel, by decide +kernel, by decide +kernel⟩
theorem fok_X7_25 : FOK RX7 25 7 8 := ⟨RX7, TX7, 38, tyX7, rfl, by decide, inX7, fl_X7_25, tyX7_ok, nmX7, rfl, by decide +kernel, by decide +kernel, by decide +kernel, by decide +kernel⟩
theorem fok_X7_119 : FOK RX7 119 7 9 := ⟨RX7, TX7, 38, tyX7, rfl, by decide, inX7, fl_X7_119, tyX7_ok, nmX7, rfl, by decide +kernel, by decide +kernel, by decide +kernel, by decide +kernel⟩
theorem fok_X7_215 : FOK RX7 215 7 10 := ⟨RX7, TX7, 38, tyX7, rfl, by decide, inX7, fl_X7_215, tyX7_ok, nmX7, rfl, by decide +kernel, by decide +kernel, by decide +kernel, by decide +kernel⟩
theorem fok_X7_125 : FOK RX7 125 7 11 := ⟨RX7, TX7, 38, tyX7, rfl, by decide, inX7, fl_X7_125, tyX7_ok, nmX7, rfl, by decide +kernel, by decide +kernel, by decide +kernel, by decide +kernel⟩
theorem fok_X7_28 : FOK RX7 28 7 12 := ⟨RX7, TX7, 38, tyX7, rfl, by decide, inX7, fl_X7_28, tyX7_ok, nmX7, rfl, by decide +kernel, by decide +kernel, by decide +kernel, by decide +kernel⟩
theorem fok_X7_31 : FOK RX7 31 7 13 := ⟨RX7, TX7, 38, tyX7, rfl, by decide, inX7, fl_X7_31, tyX7_ok, nmX7, rfl, by decide +kernel, by decide +kernel, by decide +kernel, by decide +kernel⟩
theorem fok_X7_34 : FOK RX7 34 7 14 := ⟨RX7, TX7, 38, tyX7, rfl, by decide, inX7, fl_X7_34, tyX7_ok, nmX7, rfl, by decide +kernel, by decide +kernel, by decide +kernel, by decide +kernel⟩
theorem fok_X7_81 : FOK RX7 81 7 15 := ⟨RX7, TX7, 38, tyX7, rfl, by decide, inX7, fl_X7_81, tyX7_ok, nmX7, rfl, by decide +kernel, by decide +kernel, by decide +kernel, by decide +kernel⟩
theorem fok_X7_37 : FOK RX7 37 7 16 := ⟨RX7, TX7, 38, tyX7, rfl, by decide, inX7, fl_X7_37, tyX7_ok, nmX7, rfl, by decide +kernel, by decide +kernel, by decide +kernel, by decide +kernel⟩
theorem fok_X7_96 : FOK RX7 96 7 17 := ⟨RX7, TX7, 38, tyX7, rfl, by decide, inX7, fl_X7_96, tyX7_ok, nmX7, rfl, by decide +kernel, by decide +kernel, by decide +kernel, by decide +kernel⟩
theorem fok_X7_100 : FOK RX7 100 7 18 := ⟨RX7, TX7, 38, tyX7, rfl, by decide, inX7, fl_X7_100, tyX7_ok, nmX7, rfl, by decide +kernel, by decide +kernel, by decide +kernel, by decide +kernel⟩
theorem fok_X7_89 : FOK RX7 89 7 19 := ⟨RX7, TX7, 38, tyX7, rfl, by decide, inX7, fl_X7_89, tyX7_ok, nmX7, rfl, by decide +kernel, by decide +kernel, by decide +kernel, by decide +kernel⟩
theorem fok_X7_41 : FOK RX7 41 7 20 := ⟨RX7, TX7, 38, tyX7, rfl, by decide, inX7, fl_X7_41, tyX7_ok, nmX7, rfl, by decide +kernel, by decide +kernel, by decide +kernel, by decide +kernel⟩
theorem fok_X7_44 : FOK RX7 44 7 21 := ⟨RX7, TX7, 38, tyX7, rfl, by decide, inX7, fl_X7_44, tyX7_ok, nmX7, rfl, by decide +kernel, by decide +kernel, by decide +kernel, by decide +kernel⟩
theorem fok_X7_245 : FOK RX7 245 7 22 := ⟨RX7, TX7, 38, tyX7, rfl, by decide, inX7, fl_X7_245, tyX7_ok, nmX7, rfl, by decide +kernel, by decide +kernel, by decide +kernel, by decide +kernel⟩
theorem fok_X7_47 : FOK RX7 47 7 23 := ⟨RX7, TX7, 38, tyX7, rfl, by decide, inX7, fl_X7_47, tyX7_ok, nmX7, rfl, by decide +kernel, by decide +kernel, by decide +kernel, by decide +kernel⟩
theorem fok_X7_50 : FOK RX7 50 7 24 := ⟨RX7, TX7, 38, tyX7, rfl, by decide, inX7, fl_X7_50, tyX7_ok, nmX7, rfl, by decide +kernel, by decide +kernel, by decide +kernel, by decide +kernel⟩
theorem fok_X7_270 : FOK RX7 270 7 25 := ⟨RX7, TX7, 38, tyX7, rfl, by decide, inX7, fl_X7_270, tyX7_ok, nmX7, rfl, by decide +kernel, by decide +kernel, by decide +kernel, by decide +kernel⟩
theorem fok_X7_273 : FOK RX7 273 7 26 := ⟨RX7, TX7, 38, tyX7, rfl, by decide, inX7, fl_X7_273, tyX7_ok, nmX7, rfl, by decide +kernel, by decide +kernel, by decide +kernel, by decide +kernel⟩
theorem fok_X7_276 : FOK RX7 276 7 27 := ⟨RX7, TX7, 38, tyX7, rfl, by decide, inX7, fl_X7_276, tyX7_ok, nmX7, rfl, by decide +kernel, by decide +kernel, by decide +kernel, by decide +kernel⟩
theorem fok_X7_279 : FOK RX7 279 7 28 := ⟨RX7, TX7, 38, tyX7, rfl, by decide, inX7, fl_X7_279, tyX7_ok, nmX7, rfl, by decide +kernel, by decide +kernel, by decide +kernel, by decide +kernel⟩
theorem fok_X7_53 : FOK RX7 53 7 29 := ⟨RX7, TX7, 38, tyX7, rfl, by decide, inX7, fl_X7_53, tyX7_ok, nmX7, rfl, by decide +kernel, by decide +kernel, by decide +kernel, by decide +kernel⟩
theorem fok_X7_56 : FOK RX7 56 7 30 := ⟨RX7, TX7, 38, tyX7, rfl, by decide, inX7, fl_X7_56, tyX7_ok, nmX7, rfl, by decide +kernel, by decide +kernel, by decide +kernel, by decide +kernel⟩
theorem fok_X7_59 : FOK RX7 59 7 31 := ⟨RX7, TX7, 38, tyX7, rfl, by decide, inX7, fl_X7_59, tyX7_ok, nmX7, rfl, by decide +kernel, by decide +kernel, by decide +kernel, by decide +kernel⟩
theorem fok_X7_62 : FOK RX7 62 7 32 := ⟨RX7, TX7, 38, tyX7, rfl, by decide, inX7, fl_X7_62, tyX7_ok, nmX7, rfl, by decide +kernel, by decide +kernel, by decide +kernel, by decide +kernel⟩
theorem fok_X7_65 : FOK RX7 65 7 33 := ⟨RX7, TX7, 38, tyX7, rfl, by decide, inX7, fl_X7_65, tyX7_ok, nmX7, rfl, by decide +kernel, by decide +kernel, by decide +kernel, by decide +kernel⟩
theorem fok_X7_68 : FOK RX7 68 7 34 := ⟨RX7, TX7, 38, tyX7, rfl, by decide, inX7, fl_X7_68, tyX7_ok, nmX7, rfl, by decide +kernel, by decide +kernel, by decide +kernel, by decide +kernel⟩
theorem fok_X7_71 : FOK RX7 71 7 35 := ⟨RX7, TX7, 38, tyX7, rfl, by decide, inX7, fl_X7_71, tyX7_ok, nmX7, rfl, by decide +kernel, by decide +kernel, by decide +kernel, by decide +kernel⟩
theorem fok_X7_74 : FOK RX7 74 7 36 := ⟨RX7, TX7, 38, tyX7, rfl, by decide, inX7, fl_X7_74, tyX7_ok, nmX7, rfl, by decide +kernel, by decide +kernel, by decide +kernel, by decide +kernel⟩
theorem fok_X7_294 : FOK RX7 294 7 37 := ⟨RX7, TX7, 38, tyX7, rfl, by decide, inX7, fl_X7_294, tyX7_ok, nmX7, rfl, by decide +kernel, by decide +kernel, by decide +kernel, by decide +kernel⟩
theorem xj_mmax {sc : Option (Nat × (Int → Int))} {d : Nat} {k : MI} {h : Hp} {pc pc2 : Nat} {lo : Lo} {st : List Value} {Q : Int → Hp → Prop} {a b : Int} {cs : String} {idx : Nat} (hlk : Cond.methodLink cs idx yJ9_max_7cf53 ∈ wT) (hd : decode k.2.1 pc = .ok (.invokestatic idx, 3)) (hp : pc + 3 = pc2) (he : k.1.cls = cs) (ha : -2147483648 ≤ a ∧ a ≤ 2147483647) (hb : -2147483648 ≤ b ∧ b ≤ 2147483647) (hst : (st.map fun v => v.category).sum ≤ 8) (kk : XJ sc d k h pc2 lo (vi (max a b) :: st) Q) : XJ sc d k h pc lo (vi b :: vi a :: st) Q := by
  subst hp
  intro p l e R s m args below meth c Z G A cells slots C w z r f H locs ls hP hS hl
  have K := kk p l e R s m args below meth c Z G A cells slots C w z r f H locs ls hP hS hl
  have hf := C.2.2.2.2.2.2.2.2.1
  have hlo := C.2.2.2.2.2.2.2.2.2
  refine va_mmax C.1 C.2.1 (C.2.2.1.trans hl.1.symm) (he ▸ C.2.2.2.2.1) (C.2.2.2.2.2.1 _ hlk) (C.2.2.2.2.2.1 _ sta_yJ9_max_7cf53) (C.2.2.2.2.2.1 _ ini_J9) (C.2.2.2.2.2.1 _ co_yJ9_max_7cf53) (by omega) (by rw [sum_cat]; omega) r.1 r.2 hd ?_
  rw [show (if Int32.ofInt a < Int32.ofInt b then Int32.ofInt b else Int32.ofInt a) = Int32.ofInt (max a b) from by
    by_cases q : a < b
    · rw [if_pos ((rg_lt ha hb).mpr q)]; congr 1; omega
    · rw [if_neg (fun q2 => q ((rg_lt ha hb).mp q2))]; congr 1; omega]
  exact K
theorem xj_mmin {sc : Option (Nat × (Int → Int))} {d : Nat} {k : MI} {h : Hp} {pc pc2 : Nat} {lo : Lo} {st : List Value} {Q : Int → Hp → Prop} {a b : Int} {cs : String} {idx : Nat} (hlk : Cond.methodLink cs idx yJ9_min_7cf53 ∈ wT) (hd : decode k.2.1 pc = .ok (.invokestatic idx, 3)) (hp : pc + 3 = pc2) (he : k.1.cls = cs) (ha : -2147483648 ≤ a ∧ a ≤ 2147483647) (hb : -2147483648 ≤ b ∧ b ≤ 2147483647) (hst : (st.map fun v => v.category).sum ≤ 8) (kk : XJ sc d k h pc2 lo (vi (min a b) :: st) Q) : XJ sc d k h pc lo (vi b :: vi a :: st) Q := by
  subst hp
  intro p l e R s m args below meth c Z G A cells slots C w z r f H locs ls hP hS hl
  have K := kk p l e R s m args below meth c Z G A cells slots C w z r f H locs ls hP hS hl
  have hf := C.2.2.2.2.2.2.2.2.1
  have hlo := C.2.2.2.2.2.2.2.2.2
  refine va_mmin C.1 C.2.1 (C.2.2.1.trans hl.1.symm) (he ▸ C.2.2.2.2.1) (C.2.2.2.2.2.1 _ hlk) (C.2.2.2.2.2.1 _ sta_yJ9_min_7cf53) (C.2.2.2.2.2.1 _ ini_J9) (C.2.2.2.2.2.1 _ co_yJ9_min_7cf53) (by omega) (by rw [sum_cat]; omega) r.1 r.2 hd ?_
  rw [show (if Int32.ofInt b < Int32.ofInt a then Int32.ofInt b else Int32.ofInt a) = Int32.ofInt (min a b) from by
    by_cases q : b < a
    · rw [if_pos ((rg_lt hb ha).mpr q)]; congr 1; omega
    · rw [if_neg (fun q2 => q ((rg_lt hb ha).mp q2))]; congr 1; omega]
  exact K
theorem xj_mabs {sc : Option (Nat × (Int → Int))} {d : Nat} {k : MI} {h : Hp} {pc pc2 : Nat} {lo : Lo} {st : List Value} {Q : Int → Hp → Prop} {a : Int} {cs : String} {idx : Nat} (hlk : Cond.methodLink cs idx yJ9_abs_0f7a4 ∈ wT) (hd : decode k.2.1 pc = .ok (.invokestatic idx, 3)) (hp : pc + 3 = pc2) (he : k.1.cls = cs) (ha : -2147483648 ≤ a ∧ a ≤ 2147483647) (hst : (st.map fun v => v.category).sum ≤ 8) (kk : XJ sc d k h pc2 lo (vi (if 0 ≤ a then a else -a) :: st) Q) : XJ sc d k h pc lo (vi a :: st) Q := by
  subst hp
  intro p l e R s m args below meth c Z G A cells slots C w z r f H locs ls hP hS hl
  have K := kk p l e R s m args below meth c Z G A cells slots C w z r f H locs ls hP hS hl
  have hf := C.2.2.2.2.2.2.2.2.1
  have hlo := C.2.2.2.2.2.2.2.2.2
  refine va_mabs C.1 C.2.1 (C.2.2.1.trans hl.1.symm) (he ▸ C.2.2.2.2.1) (C.2.2.2.2.2.1 _ hlk) (C.2.2.2.2.2.1 _ sta_yJ9_abs_0f7a4) (C.2.2.2.2.2.1 _ ini_J9) (C.2.2.2.2.2.1 _ co_yJ9_abs_0f7a4) (by omega) (by rw [sum_cat]; omega) r.1 r.2 hd ?_
  rw [show (if 0 ≤ Int32.ofInt a then Int32.ofInt a else 0 - Int32.ofInt a) = Int32.ofInt (if 0 ≤ a then a else -a) from by
    rw [i0]
    by_cases q : 0 ≤ a
    · rw [if_pos q, if_pos ((rg_le r00 ha).mpr q)]
    · rw [if_neg q, if_neg (fun q2 => q ((rg_le r00 ha).mp q2)), ← Int32.ofInt_sub, Int.zero_sub]]
  exact K
abbrev kL_law : MI := (x, code, maxLocals, ret)
