/-! rows of the law: more places of locals; the script in a method called with it -/
theorem xj_istore12 {sc : Option (Nat × (Int → Int))} {d : Nat} {k : MI} {h : Hp} {pc pc2 : Nat} {lo : Lo} {v0 v1 v2 v3 v4 v5 v6 v7 v8 v9 v10 v11 : Option Value} {old : Option Value} {st : List Value} {Q : Int → Hp → Prop} {a : Int} (hd : decode k.2.1 pc = .ok (.istore 12, 2)) (hp : pc + 2 = pc2) (hi : 12 < k.2.2.1) (hq : noL (v0 :: v1 :: v2 :: v3 :: v4 :: v5 :: v6 :: v7 :: v8 :: v9 :: v10 :: v11 :: old :: lo) 12 = true) (kk : XJ sc d k h pc2 (v0 :: v1 :: v2 :: v3 :: v4 :: v5 :: v6 :: v7 :: v8 :: v9 :: v10 :: v11 :: some (vi a) :: lo) st Q) : XJ sc d k h pc (v0 :: v1 :: v2 :: v3 :: v4 :: v5 :: v6 :: v7 :: v8 :: v9 :: v10 :: v11 :: old :: lo) (vi a :: st) Q := xg_istore hd hp hi hq kk
theorem xj_iinc12 {sc : Option (Nat × (Int → Int))} {d : Nat} {k : MI} {h : Hp} {pc pc2 : Nat} {lo : Lo} {v0 v1 v2 v3 v4 v5 v6 v7 v8 v9 v10 v11 : Option Value} {st : List Value} {Q : Int → Hp → Prop} {a n : Int} (hd : decode k.2.1 pc = .ok (.iinc 12 n, 3)) (hp : pc + 3 = pc2) (hi : 12 < k.2.2.1) (hq : noL (v0 :: v1 :: v2 :: v3 :: v4 :: v5 :: v6 :: v7 :: v8 :: v9 :: v10 :: v11 :: some (vi a) :: lo) 12 = true) (kk : XJ sc d k h pc2 (v0 :: v1 :: v2 :: v3 :: v4 :: v5 :: v6 :: v7 :: v8 :: v9 :: v10 :: v11 :: some (vi (a + n)) :: lo) st Q) : XJ sc d k h pc (v0 :: v1 :: v2 :: v3 :: v4 :: v5 :: v6 :: v7 :: v8 :: v9 :: v10 :: v11 :: some (vi a) :: lo) st Q := xg_iinc hd hp hi hq rfl kk
theorem xj_istore13 {sc : Option (Nat × (Int → Int))} {d : Nat} {k : MI} {h : Hp} {pc pc2 : Nat} {lo : Lo} {v0 v1 v2 v3 v4 v5 v6 v7 v8 v9 v10 v11 v12 : Option Value} {old : Option Value} {st : List Value} {Q : Int → Hp → Prop} {a : Int} (hd : decode k.2.1 pc = .ok (.istore 13, 2)) (hp : pc + 2 = pc2) (hi : 13 < k.2.2.1) (hq : noL (v0 :: v1 :: v2 :: v3 :: v4 :: v5 :: v6 :: v7 :: v8 :: v9 :: v10 :: v11 :: v12 :: old :: lo) 13 = true) (kk : XJ sc d k h pc2 (v0 :: v1 :: v2 :: v3 :: v4 :: v5 :: v6 :: v7 :: v8 :: v9 :: v10 :: v11 :: v12 :: some (vi a) :: lo) st Q) : XJ sc d k h pc (v0 :: v1 :: v2 :: v3 :: v4 :: v5 :: v6 :: v7 :: v8 :: v9 :: v10 :: v11 :: v12 :: old :: lo) (vi a :: st) Q := xg_istore hd hp hi hq kk
theorem xj_iinc13 {sc : Option (Nat × (Int → Int))} {d : Nat} {k : MI} {h : Hp} {pc pc2 : Nat} {lo : Lo} {v0 v1 v2 v3 v4 v5 v6 v7 v8 v9 v10 v11 v12 : Option Value} {st : List Value} {Q : Int → Hp → Prop} {a n : Int} (hd : decode k.2.1 pc = .ok (.iinc 13 n, 3)) (hp : pc + 3 = pc2) (hi : 13 < k.2.2.1) (hq : noL (v0 :: v1 :: v2 :: v3 :: v4 :: v5 :: v6 :: v7 :: v8 :: v9 :: v10 :: v11 :: v12 :: some (vi a) :: lo) 13 = true) (kk : XJ sc d k h pc2 (v0 :: v1 :: v2 :: v3 :: v4 :: v5 :: v6 :: v7 :: v8 :: v9 :: v10 :: v11 :: v12 :: some (vi (a + n)) :: lo) st Q) : XJ sc d k h pc (v0 :: v1 :: v2 :: v3 :: v4 :: v5 :: v6 :: v7 :: v8 :: v9 :: v10 :: v11 :: v12 :: some (vi a) :: lo) st Q := xg_iinc hd hp hi hq rfl kk
theorem xj_istore14 {sc : Option (Nat × (Int → Int))} {d : Nat} {k : MI} {h : Hp} {pc pc2 : Nat} {lo : Lo} {v0 v1 v2 v3 v4 v5 v6 v7 v8 v9 v10 v11 v12 v13 : Option Value} {old : Option Value} {st : List Value} {Q : Int → Hp → Prop} {a : Int} (hd : decode k.2.1 pc = .ok (.istore 14, 2)) (hp : pc + 2 = pc2) (hi : 14 < k.2.2.1) (hq : noL (v0 :: v1 :: v2 :: v3 :: v4 :: v5 :: v6 :: v7 :: v8 :: v9 :: v10 :: v11 :: v12 :: v13 :: old :: lo) 14 = true) (kk : XJ sc d k h pc2 (v0 :: v1 :: v2 :: v3 :: v4 :: v5 :: v6 :: v7 :: v8 :: v9 :: v10 :: v11 :: v12 :: v13 :: some (vi a) :: lo) st Q) : XJ sc d k h pc (v0 :: v1 :: v2 :: v3 :: v4 :: v5 :: v6 :: v7 :: v8 :: v9 :: v10 :: v11 :: v12 :: v13 :: old :: lo) (vi a :: st) Q := xg_istore hd hp hi hq kk
theorem xj_iinc14 {sc : Option (Nat × (Int → Int))} {d : Nat} {k : MI} {h : Hp} {pc pc2 : Nat} {lo : Lo} {v0 v1 v2 v3 v4 v5 v6 v7 v8 v9 v10 v11 v12 v13 : Option Value} {st : List Value} {Q : Int → Hp → Prop} {a n : Int} (hd : decode k.2.1 pc = .ok (.iinc 14 n, 3)) (hp : pc + 3 = pc2) (hi : 14 < k.2.2.1) (hq : noL (v0 :: v1 :: v2 :: v3 :: v4 :: v5 :: v6 :: v7 :: v8 :: v9 :: v10 :: v11 :: v12 :: v13 :: some (vi a) :: lo) 14 = true) (kk : XJ sc d k h pc2 (v0 :: v1 :: v2 :: v3 :: v4 :: v5 :: v6 :: v7 :: v8 :: v9 :: v10 :: v11 :: v12 :: v13 :: some (vi (a + n)) :: lo) st Q) : XJ sc d k h pc (v0 :: v1 :: v2 :: v3 :: v4 :: v5 :: v6 :: v7 :: v8 :: v9 :: v10 :: v11 :: v12 :: v13 :: some (vi a) :: lo) st Q := xg_iinc hd hp hi hq rfl kk
theorem xj_istore15 {sc : Option (Nat × (Int → Int))} {d : Nat} {k : MI} {h : Hp} {pc pc2 : Nat} {lo : Lo} {v0 v1 v2 v3 v4 v5 v6 v7 v8 v9 v10 v11 v12 v13 v14 : Option Value} {old : Option Value} {st : List Value} {Q : Int → Hp → Prop} {a : Int} (hd : decode k.2.1 pc = .ok (.istore 15, 2)) (hp : pc + 2 = pc2) (hi : 15 < k.2.2.1) (hq : noL (v0 :: v1 :: v2 :: v3 :: v4 :: v5 :: v6 :: v7 :: v8 :: v9 :: v10 :: v11 :: v12 :: v13 :: v14 :: old :: lo) 15 = true) (kk : XJ sc d k h pc2 (v0 :: v1 :: v2 :: v3 :: v4 :: v5 :: v6 :: v7 :: v8 :: v9 :: v10 :: v11 :: v12 :: v13 :: v14 :: some (vi a) :: lo) st Q) : XJ sc d k h pc (v0 :: v1 :: v2 :: v3 :: v4 :: v5 :: v6 :: v7 :: v8 :: v9 :: v10 :: v11 :: v12 :: v13 :: v14 :: old :: lo) (vi a :: st) Q := xg_istore hd hp hi hq kk
theorem xj_iinc15 {sc : Option (Nat × (Int → Int))} {d : Nat} {k : MI} {h : Hp} {pc pc2 : Nat} {lo : Lo} {v0 v1 v2 v3 v4 v5 v6 v7 v8 v9 v10 v11 v12 v13 v14 : Option Value} {st : List Value} {Q : Int → Hp → Prop} {a n : Int} (hd : decode k.2.1 pc = .ok (.iinc 15 n, 3)) (hp : pc + 3 = pc2) (hi : 15 < k.2.2.1) (hq : noL (v0 :: v1 :: v2 :: v3 :: v4 :: v5 :: v6 :: v7 :: v8 :: v9 :: v10 :: v11 :: v12 :: v13 :: v14 :: some (vi a) :: lo) 15 = true) (kk : XJ sc d k h pc2 (v0 :: v1 :: v2 :: v3 :: v4 :: v5 :: v6 :: v7 :: v8 :: v9 :: v10 :: v11 :: v12 :: v13 :: v14 :: some (vi (a + n)) :: lo) st Q) : XJ sc d k h pc (v0 :: v1 :: v2 :: v3 :: v4 :: v5 :: v6 :: v7 :: v8 :: v9 :: v10 :: v11 :: v12 :: v13 :: v14 :: some (vi a) :: lo) st Q := xg_iinc hd hp hi hq rfl kk
theorem xj_istore16 {sc : Option (Nat × (Int → Int))} {d : Nat} {k : MI} {h : Hp} {pc pc2 : Nat} {lo : Lo} {v0 v1 v2 v3 v4 v5 v6 v7 v8 v9 v10 v11 v12 v13 v14 v15 : Option Value} {old : Option Value} {st : List Value} {Q : Int → Hp → Prop} {a : Int} (hd : decode k.2.1 pc = .ok (.istore 16, 2)) (hp : pc + 2 = pc2) (hi : 16 < k.2.2.1) (hq : noL (v0 :: v1 :: v2 :: v3 :: v4 :: v5 :: v6 :: v7 :: v8 :: v9 :: v10 :: v11 :: v12 :: v13 :: v14 :: v15 :: old :: lo) 16 = true) (kk : XJ sc d k h pc2 (v0 :: v1 :: v2 :: v3 :: v4 :: v5 :: v6 :: v7 :: v8 :: v9 :: v10 :: v11 :: v12 :: v13 :: v14 :: v15 :: some (vi a) :: lo) st Q) : XJ sc d k h pc (v0 :: v1 :: v2 :: v3 :: v4 :: v5 :: v6 :: v7 :: v8 :: v9 :: v10 :: v11 :: v12 :: v13 :: v14 :: v15 :: old :: lo) (vi a :: st) Q := xg_istore hd hp hi hq kk
theorem xj_iinc16 {sc : Option (Nat × (Int → Int))} {d : Nat} {k : MI} {h : Hp} {pc pc2 : Nat} {lo : Lo} {v0 v1 v2 v3 v4 v5 v6 v7 v8 v9 v10 v11 v12 v13 v14 v15 : Option Value} {st : List Value} {Q : Int → Hp → Prop} {a n : Int} (hd : decode k.2.1 pc = .ok (.iinc 16 n, 3)) (hp : pc + 3 = pc2) (hi : 16 < k.2.2.1) (hq : noL (v0 :: v1 :: v2 :: v3 :: v4 :: v5 :: v6 :: v7 :: v8 :: v9 :: v10 :: v11 :: v12 :: v13 :: v14 :: v15 :: some (vi a) :: lo) 16 = true) (kk : XJ sc d k h pc2 (v0 :: v1 :: v2 :: v3 :: v4 :: v5 :: v6 :: v7 :: v8 :: v9 :: v10 :: v11 :: v12 :: v13 :: v14 :: v15 :: some (vi (a + n)) :: lo) st Q) : XJ sc d k h pc (v0 :: v1 :: v2 :: v3 :: v4 :: v5 :: v6 :: v7 :: v8 :: v9 :: v10 :: v11 :: v12 :: v13 :: v14 :: v15 :: some (vi a) :: lo) st Q := xg_iinc hd hp hi hq rfl kk
theorem xj_istore17 {sc : Option (Nat × (Int → Int))} {d : Nat} {k : MI} {h : Hp} {pc pc2 : Nat} {lo : Lo} {v0 v1 v2 v3 v4 v5 v6 v7 v8 v9 v10 v11 v12 v13 v14 v15 v16 : Option Value} {old : Option Value} {st : List Value} {Q : Int → Hp → Prop} {a : Int} (hd : decode k.2.1 pc = .ok (.istore 17, 2)) (hp : pc + 2 = pc2) (hi : 17 < k.2.2.1) (hq : noL (v0 :: v1 :: v2 :: v3 :: v4 :: v5 :: v6 :: v7 :: v8 :: v9 :: v10 :: v11 :: v12 :: v13 :: v14 :: v15 :: v16 :: old :: lo) 17 = true) (kk : XJ sc d k h pc2 (v0 :: v1 :: v2 :: v3 :: v4 :: v5 :: v6 :: v7 :: v8 :: v9 :: v10 :: v11 :: v12 :: v13 :: v14 :: v15 :: v16 :: some (vi a) :: lo) st Q) : XJ sc d k h pc (v0 :: v1 :: v2 :: v3 :: v4 :: v5 :: v6 :: v7 :: v8 :: v9 :: v10 :: v11 :: v12 :: v13 :: v14 :: v15 :: v16 :: old :: lo) (vi a :: st) Q := xg_istore hd hp hi hq kk
theorem xj_iinc17 {sc : Option (Nat × (Int → Int))} {d : Nat} {k : MI} {h : Hp} {pc pc2 : Nat} {lo : Lo} {v0 v1 v2 v3 v4 v5 v6 v7 v8 v9 v10 v11 v12 v13 v14 v15 v16 : Option Value} {st : List Value} {Q : Int → Hp → Prop} {a n : Int} (hd : decode k.2.1 pc = .ok (.iinc 17 n, 3)) (hp : pc + 3 = pc2) (hi : 17 < k.2.2.1) (hq : noL (v0 :: v1 :: v2 :: v3 :: v4 :: v5 :: v6 :: v7 :: v8 :: v9 :: v10 :: v11 :: v12 :: v13 :: v14 :: v15 :: v16 :: some (vi a) :: lo) 17 = true) (kk : XJ sc d k h pc2 (v0 :: v1 :: v2 :: v3 :: v4 :: v5 :: v6 :: v7 :: v8 :: v9 :: v10 :: v11 :: v12 :: v13 :: v14 :: v15 :: v16 :: some (vi (a + n)) :: lo) st Q) : XJ sc d k h pc (v0 :: v1 :: v2 :: v3 :: v4 :: v5 :: v6 :: v7 :: v8 :: v9 :: v10 :: v11 :: v12 :: v13 :: v14 :: v15 :: v16 :: some (vi a) :: lo) st Q := xg_iinc hd hp hi hq rfl kk
theorem xj_lstore9 {sc : Option (Nat × (Int → Int))} {d : Nat} {k : MI} {h : Hp} {pc pc2 : Nat} {lo : Lo} {v0 v1 v2 v3 v4 v5 v6 v7 v8 : Option Value} {old old2 : Option Value} {st : List Value} {Q : Int → Hp → Prop} {a : Int} (hd : decode k.2.1 pc = .ok (.lstore 9, 2)) (hp : pc + 2 = pc2) (hi : 9 + 1 < k.2.2.1) (hq : noL (v0 :: v1 :: v2 :: v3 :: v4 :: v5 :: v6 :: v7 :: v8 :: old :: old2 :: lo) 9 = true) (kk : XJ sc d k h pc2 (v0 :: v1 :: v2 :: v3 :: v4 :: v5 :: v6 :: v7 :: v8 :: some (vl a) :: none :: lo) st Q) : XJ sc d k h pc (v0 :: v1 :: v2 :: v3 :: v4 :: v5 :: v6 :: v7 :: v8 :: old :: old2 :: lo) (vl a :: st) Q := xg_lstore hd hp hi hq kk
theorem xj_lstore10 {sc : Option (Nat × (Int → Int))} {d : Nat} {k : MI} {h : Hp} {pc pc2 : Nat} {lo : Lo} {v0 v1 v2 v3 v4 v5 v6 v7 v8 v9 : Option Value} {old old2 : Option Value} {st : List Value} {Q : Int → Hp → Prop} {a : Int} (hd : decode k.2.1 pc = .ok (.lstore 10, 2)) (hp : pc + 2 = pc2) (hi : 10 + 1 < k.2.2.1) (hq : noL (v0 :: v1 :: v2 :: v3 :: v4 :: v5 :: v6 :: v7 :: v8 :: v9 :: old :: old2 :: lo) 10 = true) (kk : XJ sc d k h pc2 (v0 :: v1 :: v2 :: v3 :: v4 :: v5 :: v6 :: v7 :: v8 :: v9 :: some (vl a) :: none :: lo) st Q) : XJ sc d k h pc (v0 :: v1 :: v2 :: v3 :: v4 :: v5 :: v6 :: v7 :: v8 :: v9 :: old :: old2 :: lo) (vl a :: st) Q := xg_lstore hd hp hi hq kk
theorem band_le {a : Int} {b : Nat} (hb : b < 2 ^ 31) : 0 ≤ band a b ∧ band a b ≤ b := by
  have h1 : (Int32.ofInt a &&& Int32.ofInt (b : Int)).toBitVec.toNat ≤ b := by
    rw [Int32.toBitVec_and, BitVec.toNat_and, i32_bv b hb]
    exact Nat.and_le_right
  have h2 := i32_int (x := Int32.ofInt a &&& Int32.ofInt (b : Int)) rfl (by omega)
  unfold band
  rw [h2]
  omega
theorem band_mx (a : Int) : 0 ≤ band a 2147483647 ∧ band a 2147483647 ≤ 2147483647 := band_le (a := a) (b := 2147483647) (by decide)
theorem band_7 (a : Int) : 0 ≤ band a 7 ∧ band a 7 ≤ 7 := band_le (a := a) (b := 7) (by decide)
theorem band_15 (a : Int) : 0 ≤ band a 15 ∧ band a 15 ≤ 15 := band_le (a := a) (b := 15) (by decide)
theorem mt {b : Int} {j : Nat} (hb : 0 ≤ b ∧ b ≤ 2147483647) (hj : j ≤ 30) : band (bshr b (j : Int)) 1 = 1 ↔ memb b j = true := by
  rw [memb_test hb (by omega)]
  unfold memb
  exact decide_eq_true_iff.symm
theorem mt2 {b : Int} {i j : Nat} (hb : 0 ≤ b ∧ b ≤ 2147483647) (hi : i ≤ 30) (hj : j ≤ 30) : band (band (bshr b (i : Int)) (bshr b (j : Int))) 1 = 1 ↔ (memb b i = true ∧ memb b j = true) := by
  have ti := mt hb hi
  have tj := mt hb hj
  obtain ⟨bn, rfl⟩ := Int.eq_ofNat_of_zero_le hb.1
  have h1 : bn >>> i < 2 ^ 31 := Nat.lt_of_le_of_lt (Nat.shiftRight_le _ _) (by omega)
  have h2 : bn >>> j < 2 ^ 31 := Nat.lt_of_le_of_lt (Nat.shiftRight_le _ _) (by omega)
  have h3 : bn >>> i &&& bn >>> j < 2 ^ 31 := Nat.and_lt_two_pow _ h2
  rw [bshr_nat (by omega) hi, show (1 : Int) = ((1 : Nat) : Int) from rfl, band_nat h1 (by decide), Nat.and_one_is_mod] at ti
  rw [bshr_nat (by omega) hj, show (1 : Int) = ((1 : Nat) : Int) from rfl, band_nat h2 (by decide), Nat.and_one_is_mod] at tj
  rw [← ti, ← tj, bshr_nat (by omega) hi, bshr_nat (by omega) hj, band_nat h1 h2, show (1 : Int) = ((1 : Nat) : Int) from rfl, band_nat h3 (by decide), Nat.and_one_is_mod]
  have := @Nat.and_mod_two_eq_one (bn >>> i) (bn >>> j)
  constructor
  · intro q
    have q2 := this.mp (by exact_mod_cast q)
    exact ⟨by exact_mod_cast q2.1, by exact_mod_cast q2.2⟩
  · intro q
    have q2 := this.mpr ⟨by exact_mod_cast q.1, by exact_mod_cast q.2⟩
    exact_mod_cast q2
theorem bor_0 {x : Int} (h : 0 ≤ x ∧ x ≤ 2147483647) : bor x 0 = x := by
  obtain ⟨n, rfl⟩ := Int.eq_ofNat_of_zero_le h.1
  rw [show (0 : Int) = ((0 : Nat) : Int) from rfl, bor_nat (by omega) (by decide), Nat.or_zero]
section CSs
variable {sc : Option (Nat × (Int → Int))} {d d2 n : Nat} {k k2 : MI} {h : Hp} {pc pc2 : Nat} {lo : Lo} {st : List Value} {Q : Int → Hp → Prop}
def PS (sc : Option (Nat × (Int → Int))) (G : Gw) (h : Hp) (U : State) : Prop := PJ G h U ∧ ∀ (L : Nat) (xs : Int → Int), sc = some (L, xs) → va_X (G.2.2.2 1000) L (fun j => Int32.ofInt (xs j)) U U.heap ∧ G.2.2.2 1000 < U.heap.size ∧ ¬ AG G (G.2.2.2 1000)
/-- method k, called with the script among its arguments, answers by Q -/
def CJs (sc : Option (Nat × (Int → Int))) (d : Nat) (k : MI) (as : List Value) (h : Hp) (Q : Int → Hp → Prop) : Prop :=
  ∀ (l : Launch) (G : Gw), (∀ c ∈ cellsL, ∀ c' ∈ cellsL, G.2.2.2 c = G.2.2.2 c' → c = c') → Met l k.1 (wk k) (rmd d) (va_Pc (as.map (cv G)) (PS sc G h)) (QJ k G Q) 0 0 (AG G)
theorem PS_blind (G : Gw) (h : Hp) (as : List Value) : FrameBlind (va_Pc as (PS sc G h)) := fun a U g mk q => ⟨q.1, (PJ_blind G h as a U g mk ⟨q.1, q.2.1⟩).2, fun L xs e => ⟨va_X.moved (u := U) (U := U.calling g mk a) (Vm.Alike.refl U.vm) (q.2.2 L xs e).1, (q.2.2 L xs e).2⟩⟩
theorem pre_ofS {G : Gw} {s : State} {A : Nat → Prop} {H : Heap} {locs : List Loc} {as : List Value} (w : Wd G s A) (z : ScP sc G s A) (hn : NW s) (hP : va_P G.1 xjCl (WS G h) H) (hS : va_S A s.heap H locs) : ∀ U : State, U.heap = H → s.WarmedH U.vm → va_Pc as (PS sc G h) as.toArray U := by
  intro U hU hW
  refine ⟨rfl, (pre_of (as := as) w hn hP U hU hW).2, fun L xs e => ?_⟩
  obtain ⟨z1, z2, z3⟩ := z L xs e
  refine ⟨?_, by rw [hU]; exact Nat.lt_of_lt_of_le z2 hS.1, fun q => z3 (AG_in w _ q)⟩
  rw [hU]
  exact (z1.kept (hS.2.1 _ z2 z3)).moved hW.alike
/-- a static method, linked as it is, called with the script -/
theorem xg_callSs {cs : String} {idx : Nat} {as : List Value} (M : MOK k2 n) (hl : Cond.methodLink cs idx k2.1 ∈ wT) (hs : Cond.static k2.1 ∈ wT) (hd : decode k.2.1 pc = .ok (.invokestatic idx, 3)) (he : k.1.cls = cs) (hn : as.length = n) (hd2 : d2 + 1 ≤ d) (hm : k2.2.2.1 ≤ 23) (hst : (st.map fun v => v.category).sum ≤ 8)
    (kk : CJs sc d2 k2 as h (fun x h' => XJ sc d k h' (pc + 3) lo ((rv k2 x).toList ++ st) Q)) : XJ sc d k h pc lo (as.reverse ++ st) Q := by
  intro p l e R s m args below meth c Z G A cells slots C w z r f H locs ls hP hS hll
  have hM := kk l G w.2.1
  have hr := va_runS (H := H) (locs := locs) (below := below) (meth := meth) (e := e) (cells := cells) (slots := slots) (g := F0 m pc ls ((as.reverse ++ st).map (cv G))) (rest := st.map (cv G)) (As := as.map (cv G)) ⟨C.1, C.2.1, C.2.2.1, (he ▸ C.2.2.2.2.1 : s.vm.findClass cs = some m.cls), C.2.2.2.2.2.1⟩ hM ⟨cb_of C M hl hd2 hm, C.2.2.2.2.2.1 _ hs⟩ ⟨PS_blind G h _, pre_ofS w z C.2.2.2.2.2.2.2.1 hP hS⟩ rfl (by simpa using hn) hll.1 (by simp) (lv_room (by rw [sum_cat]; exact hst)) hd (by simpa using r)
  refine run_call hr hS (AG_in w) (fun x h' H1 locs1 hq hP1 hS1 => ?_)
  have K := hq p l e R s m args below meth c Z G A cells slots C w z r f H1 locs1 ls hP1 hS1 hll
  rw [List.map_append] at K
  have e2 : (rv k2 x).toList.map (cv G) = (rv k2 x).toList := by
    unfold rv
    split <;> rfl
  rw [e2] at K
  exact K
theorem cj_ofS {as : List Value} {lo : Lo} (M : MOK k n) (hlo : ∀ G : Gw, lp G 0 lo = lv_args 0 (as.map (cv G))) (hlen : ∀ G : Gw, (lg_sl (as.map (cv G))).length ≤ k.2.2.1) (kk : XJ sc d k h 0 lo [] Q) : CJs sc d k as h Q := by
  intro l G hinj
  refine Met.ofW (cc := k.2.1) (maxL := k.2.2.1) (ret := k.2.2.2) M.1 rfl ?_
  intro p e s m args below meth c s₁ B hml hv
  obtain ⟨rfl, ⟨hP, hK, hN⟩, hX⟩ := hv
  have hts := atoms_spec (ws := wk k) B.pre
  have hroom : ((headSpec (wk k) (rmd d)).room) = rmd d := rfl
  have C : Cx p (headSpec (wk k) (rmd d)).room s m ((as.map (cv G)).toArray) meth c k d := ⟨B.exec, B.bytes, hml, B.returns, findClass_of_methodNamed B.named, fun w hw => hts w (List.mem_cons_of_mem _ hw), B.notSynchronized, hN, Nat.le_refl _, Nat.le_refl _⟩
  have w : Wd G s (AG G) := ⟨hK, hinj, fun c hc => ⟨c, hc, rfl⟩⟩
  have hl := lv_entry (as.map (cv G)) (n := k.2.2.1) (hlen G)
  rw [lg_entry_eq]
  rw [← hlo G] at hl
  refine kk p l e _ s m _ below meth c _ G (AG G) 0 0 C w hX ⟨Nat.zero_le _, Nat.zero_le _⟩ ?_ s.heap [] _ hP va_S.rf hl
  intro x h' H locs pc' ls st' hq hf hP' hS'
  have hend : ∀ v : Option Value, v = rv k x → ∀ t : State, t.heap = H → s.WarmedH t.vm → QJ k G Q ((as.map (cv G)).toArray) s (.returned v) t := fun v hv t ht _ => ⟨⟨x, h', hq, by rw [hv], by rw [ht]; exact hP'⟩, hS'.F ht⟩
  rcases hf with ⟨hd, rfl, hr | ⟨hr, hx⟩⟩ | ⟨hd, rfl, hr⟩ | ⟨hd, rfl, hr⟩
  · exact W.iret C.1 C.2.1 (B.returns.trans hr) (hend _ (by unfold rv; rw [hr]; rfl)) hS'.2.2 hd B.notSynchronized
  · exact W.zret C.1 C.2.1 (B.returns.trans hr) (by rcases hx with rfl | rfl <;> rfl) (hend _ (by unfold rv; rw [hr]; rfl)) hS'.2.2 hd B.notSynchronized
  · exact W.lret C.1 C.2.1 (B.returns.trans hr) (hend _ (by unfold rv; rw [hr]; rfl)) hS'.2.2 hd B.notSynchronized
  · exact W.vret C.1 C.2.1 (B.returns.trans hr) (hend _ (by unfold rv; rw [hr])) hS'.2.2 hd B.notSynchronized
end CSs
/-- a cell of the script: some number that is not below nought -/
theorem c_L_cell {L : Nat} {xs : Int → Int} {i : Int} {h : Hp} {Q : Int → Hp → Prop} (hL : L ≤ 4096) (hi : 0 ≤ i ∧ i ≤ 1000) (hq : ∀ v, 0 ≤ v ∧ v ≤ 2147483647 → Q v h) : CJs (some (L, xs)) 0 kL_cell [.ref 1000, vi i] h Q := by
  refine cj_ofS (lo := [some (.ref 1000), some (vi i)]) mok_L_cell (fun _ => rfl) (fun _ => Nat.le_of_ble_eq_true rfl) ?_
  refine xj_iload_n (pc2 := 1) dL_cell_0 rfl rfl rfl ?_
  refine xj_aload_n (pc2 := 2) dL_cell_1 rfl rfl rfl ?_
  refine xj_slen (pc2 := 3) rfl dL_cell_2 rfl rfl rfl ?_
  refine xj_cmp_ge (pc2 := 6) (tgt := 12) dL_cell_3 rfl rfl (by omega) (by omega) (fun c_3 => ?_) (fun c_3 => ?_)
  · -- 12
    refine xj_sipush (pc2 := 15) dL_cell_12 rfl (by decide) ?_
    refine xj_iload_n (pc2 := 16) dL_cell_15 rfl rfl rfl ?_
    refine xj_imul (pc2 := 17) dL_cell_16 rfl ?_
    refine xj_bipush (pc2 := 19) dL_cell_17 rfl (by decide) ?_
    refine xj_iadd (pc2 := 20) dL_cell_19 rfl ?_
    refine xj_ldc (pc2 := 22) (n := 2147483647) dL_cell_20 rfl k_L_7 rfl ?_
    refine xj_iand (pc2 := 23) dL_cell_22 rfl ?_
    refine xj_iret dL_cell_23 rfl ?_
    exact hq _ (band_mx _)
  · -- 6
    refine xj_aload_n (pc2 := 7) dL_cell_6 rfl rfl rfl ?_
    refine xj_iload_n (pc2 := 8) dL_cell_7 rfl rfl rfl ?_
    refine xj_sld (pc2 := 9) rfl dL_cell_8 rfl (by omega) (by omega) rfl rfl ?_
    refine xj_goto (tgt := 20) dL_cell_9 rfl ?_
    refine xj_ldc (pc2 := 22) (n := 2147483647) dL_cell_20 rfl k_L_7 rfl ?_
    refine xj_iand (pc2 := 23) dL_cell_22 rfl ?_
    refine xj_iret dL_cell_23 rfl ?_
    exact hq _ (band_mx _)
theorem xj_cell {L : Nat} {xs : Int → Int} {i : Int} {d : Nat} {k : MI} {h : Hp} {pc pc2 : Nat} {lo : Lo} {st : List Value} {Q : Int → Hp → Prop} (hL : L ≤ 4096) (hi : 0 ≤ i ∧ i ≤ 1000) (hd : decode k.2.1 pc = .ok (.invokestatic 73, 3)) (hp : pc + 3 = pc2) (he : k.1.cls = RL) (hd2 : 1 ≤ d) (hst : (st.map fun v => v.category).sum ≤ 8) (kk : ∀ v, 0 ≤ v ∧ v ≤ 2147483647 → XJ (some (L, xs)) d k h pc2 lo (vi v :: st) Q) : XJ (some (L, xs)) d k h pc lo (vi i :: .ref 1000 :: st) Q := by
  subst hp
  refine xg_callSs (as := [.ref 1000, vi i]) (d2 := 0) mok_L_cell ml_L_73 sta_yL_cell hd he rfl (by omega) (by decide) hst ?_
  exact c_L_cell hL hi (fun v hv => kk v hv)
