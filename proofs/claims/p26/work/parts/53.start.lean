/-! from the entry to the loop, and to the end -/
theorem law_end {p : Program} {l : Launch} {e : Env} {s : State} {m : MethodId} {below : List Frame} {meth : Method} {c : Code} {b : Nat} (hx : p.tables.exec = Jvm.exec) (hb : c.code = code) (hr : meth.sig.returnType = ret) (hlocks : meth.locks = false) {x : Int} {pc : Nat} {st : List Value} {H : Heap} {locs : List Loc} {ls : Array Slot} {cells slots : Nat} (h1 : x = 1) (hf : FinJ kL_law x pc st) (hS : va_S (fun q => s.heap.size ≤ q) s.heap H locs) (hc : cells ≤ 54) (hs : slots ≤ 626) : W p l e room_1 s m #[Value.ref b] below meth c H locs cells slots (lw_Z below #[Value.ref b] s) (F0 m pc ls st) := by
  subst h1
  refine va_forget (fun q hq => hS.2.2 q hq) ?_
  refine W.widen (k := 54) (n := 626) hc hs ?_
  rcases hf with ⟨hd, rfl, -⟩ | ⟨-, -, hr2⟩ | ⟨-, -, hr2⟩
  · exact lw_ret hx hb hr hlocks hd
  · exact absurd hr2 (by decide +kernel)
  · exact absurd hr2 (by decide +kernel)
set_option maxHeartbeats 4000000 in
set_option maxRecDepth 100000 in
theorem law_world {p : Program} {e : Env} {s : State} {m : MethodId} {below : List Frame} {meth : Method} {c : Code} (l : Launch) {b L : Nat} {xs : Nat → Int32} (hL : L ≤ 260) (C0 : lw_At p s m meth c b L xs) (htw : ∀ w ∈ wT, w.before #[Value.ref b] s = true) (hN : NW s) {D : va_G} {tI tB : ClassId} (hK : va_K D xjCl [(tI, .int)] s) {H : Heap} {locs : List Loc} {ls : Array Slot} {qa qb qv cells slots : Nat} {wA : va_W} (hA : PWX6 tI tI qa wA) (hP : va_P D xjCl ((wA ++ [(qb, ar tI 39)]) ++ [(qv, ar tI 39)]) H) (hD : va_D (fun q => s.heap.size ≤ q) ((wA ++ [(qb, ar tI 39)]) ++ [(qv, ar tI 39)])) (hS : va_S (fun q => s.heap.size ≤ q) s.heap H locs) (hl : lv_has ls 18 [(3, .ref qv), (2, .ref qb), (1, .ref qa), (0, .ref b)]) (hc : cells ≤ 54) (hs : slots ≤ 626) : W p l e room_1 s m #[Value.ref b] below meth c H locs cells slots (lw_Z below #[Value.ref b] s) (F0 m 18 ls []) := by
  obtain ⟨hx, hb, hr, hml, hown, hts, hX, hbl, hlocks, hgv⟩ := id C0
  obtain ⟨a1, a2, a3, a4, a5, a6, a7, a8, w0, w1, w2, w3, w4, w5, w6, w7, k0, k1, k2, k3, k4, k5, k6, k7, rfl⟩ := hA
  obtain ⟨a17, rfl⟩ := k0
  obtain ⟨a33, a34, a35, a36, a37, a38, a39, a40, a41, a42, a43, rfl⟩ := k1
  obtain ⟨a49, a50, a51, a52, a53, a54, a55, a56, a57, a58, a59, rfl⟩ := k2
  obtain ⟨a65, a66, a67, a68, a69, a70, a71, a72, a73, a74, a75, rfl⟩ := k3
  obtain ⟨a81, a82, a83, a84, rfl⟩ := k4
  obtain ⟨a97, a98, a99, a100, rfl⟩ := k5
  obtain ⟨a113, rfl⟩ := k6
  cases k7
  have hw := world_eq D tI tB qa a1 a2 a3 a4 a5 a6 a7 a8 a17 a33 a34 a35 a36 a37 a38 a39 a40 a41 a42 a43 a49 a50 a51 a52 a53 a54 a55 a56 a57 a58 a59 a65 a66 a67 a68 a69 a70 a71 a72 a73 a74 a75 a81 a82 a83 a84 a97 a98 a99 a100 a113 qb qv b
  have hP2 : va_P D xjCl (WS (D, tI, tB, adF (adL qa a1 a2 a3 a4 a5 a6 a7 a8 a17 a33 a34 a35 a36 a37 a38 a39 a40 a41 a42 a43 a49 a50 a51 a52 a53 a54 a55 a56 a57 a58 a59 a65 a66 a67 a68 a69 a70 a71 a72 a73 a74 a75 a81 a82 a83 a84 a97 a98 a99 a100 a113 qb qv b)) h00) H := va_P.sub hP posL (sub_of_map hw)
  have hD2 : va_D (fun q => s.heap.size ≤ q) (WS (D, tI, tB, adF (adL qa a1 a2 a3 a4 a5 a6 a7 a8 a17 a33 a34 a35 a36 a37 a38 a39 a40 a41 a42 a43 a49 a50 a51 a52 a53 a54 a55 a56 a57 a58 a59 a65 a66 a67 a68 a69 a70 a71 a72 a73 a74 a75 a81 a82 a83 a84 a97 a98 a99 a100 a113 qb qv b)) h00) := va_D.sub hD posL (by decide +kernel) hw
  have ea : adF (adL qa a1 a2 a3 a4 a5 a6 a7 a8 a17 a33 a34 a35 a36 a37 a38 a39 a40 a41 a42 a43 a49 a50 a51 a52 a53 a54 a55 a56 a57 a58 a59 a65 a66 a67 a68 a69 a70 a71 a72 a73 a74 a75 a81 a82 a83 a84 a97 a98 a99 a100 a113 qb qv b) 0 = qa := rfl
  have eb : adF (adL qa a1 a2 a3 a4 a5 a6 a7 a8 a17 a33 a34 a35 a36 a37 a38 a39 a40 a41 a42 a43 a49 a50 a51 a52 a53 a54 a55 a56 a57 a58 a59 a65 a66 a67 a68 a69 a70 a71 a72 a73 a74 a75 a81 a82 a83 a84 a97 a98 a99 a100 a113 qb qv b) 145 = qb := rfl
  have ev : adF (adL qa a1 a2 a3 a4 a5 a6 a7 a8 a17 a33 a34 a35 a36 a37 a38 a39 a40 a41 a42 a43 a49 a50 a51 a52 a53 a54 a55 a56 a57 a58 a59 a65 a66 a67 a68 a69 a70 a71 a72 a73 a74 a75 a81 a82 a83 a84 a97 a98 a99 a100 a113 qb qv b) 146 = qv := rfl
  have ec : adF (adL qa a1 a2 a3 a4 a5 a6 a7 a8 a17 a33 a34 a35 a36 a37 a38 a39 a40 a41 a42 a43 a49 a50 a51 a52 a53 a54 a55 a56 a57 a58 a59 a65 a66 a67 a68 a69 a70 a71 a72 a73 a74 a75 a81 a82 a83 a84 a97 a98 a99 a100 a113 qb qv b) 1000 = b := rfl
  generalize adF (adL qa a1 a2 a3 a4 a5 a6 a7 a8 a17 a33 a34 a35 a36 a37 a38 a39 a40 a41 a42 a43 a49 a50 a51 a52 a53 a54 a55 a56 a57 a58 a59 a65 a66 a67 a68 a69 a70 a71 a72 a73 a74 a75 a81 a82 a83 a84 a97 a98 a99 a100 a113 qb qv b) = ad at hP2 hD2 ea eb ev ec
  clear hw hP hD
  have wd : Wd (D, tI, tB, ad) s (fun q => s.heap.size ≤ q) := by
    refine ⟨hK, fun c hc c' hc' he => ?_, fun c hc => ?_⟩
    · obtain ⟨i, hi⟩ := List.getElem?_of_mem hc
      obtain ⟨j, hj⟩ := List.getElem?_of_mem hc'
      have e := hD2.1 i j (ad c, ent (D, tI, tB, ad) h00 c) (ad c', ent (D, tI, tB, ad) h00 c') (by simp [WS, hi]) (by simp [WS, hj]) he
      subst e
      exact Option.some.inj (hi.symm.trans hj)
    · obtain ⟨i, hi⟩ := List.getElem?_of_mem hc
      exact hD2.2 i (ad c, ent (D, tI, tB, ad) h00 c) (by simp [WS, hi])
  have K := law_loop (L := L) (xs := fun j => (xs j.toNat).toInt) (Nat.le_trans hL (by decide)) (Q := fun x _ => x = 1) (fun _ => rfl) KC_00 KW_00
  have hX2 : va_X (ad 1000) L (fun j => Int32.ofInt ((xs ((j : Nat) : Int).toNat).toInt)) s s.heap := by
    rw [ec]
    have e : (fun j : Nat => Int32.ofInt ((xs ((j : Nat) : Int).toNat).toInt)) = xs := by
      funext j
      rw [Int32.ofInt_toInt, Int.toNat_natCast]
    rw [e]
    exact hX
  refine K p l e room_1 s m #[Value.ref b] below meth c (lw_Z below #[Value.ref b] s) (D, tI, tB, ad) (fun q => s.heap.size ≤ q) cells slots ⟨hx, hb, hml, hr, hown, htw, hlocks, hN, Nat.le_of_ble_eq_true rfl, Nat.le_of_ble_eq_true rfl⟩ wd ?_ ⟨hc, hs⟩ ?_ H locs ls hP2 hS ?_
  · intro L2 xs2 he
    have he2 := Option.some.inj he
    have h1 : L = L2 := congrArg Prod.fst he2
    have h2 : (fun j : Int => (xs j.toNat).toInt) = xs2 := congrArg Prod.snd he2
    subst h1
    subst h2
    exact ⟨hX2, by show ad 1000 < _; rw [ec]; exact hbl, by show ¬ s.heap.size ≤ ad 1000; rw [ec]; omega⟩
  · intro x h' H1 locs1 pc' ls1 st' hq hf hP3 hS3
    exact law_end hx hb hr hlocks hq hf hS3 hc hs
  · have e : lp (D, tI, tB, ad) 0 [some (.ref 1000), some (.ref 0), some (.ref 145), some (.ref 146), none, none, none, none, none, none, none, none, none, none, none, none, none, none] = [(0, .ref b), (1, .ref qa), (2, .ref qb), (3, .ref qv)] := by
      show [(0, Value.ref (ad 1000)), (1, Value.ref (ad 0)), (2, Value.ref (ad 145)), (3, Value.ref (ad 146))] = _
      rw [ea, eb, ev, ec]
    show lv_has ls 18 (lp (D, tI, tB, ad) 0 [some (.ref 1000), some (.ref 0), some (.ref 145), some (.ref 146), none, none, none, none, none, none, none, none, none, none, none, none, none, none])
    rw [e]
    exact lv_sub hl [3, 2, 1, 0] rfl
