abbrev rg (a : Int) : Prop := -2147483648 ≤ a ∧ a ≤ 2147483647
abbrev rgl (a : Int) : Prop := -9223372036854775808 ≤ a ∧ a ≤ 9223372036854775807
theorem rg_toInt {a : Int} (h : -2147483648 ≤ a ∧ a ≤ 2147483647) : (Int32.ofInt a).toInt = a := Int32.toInt_ofInt_of_le (by omega) (by omega)
theorem rg_le {a b : Int} (ha : -2147483648 ≤ a ∧ a ≤ 2147483647) (hb : -2147483648 ≤ b ∧ b ≤ 2147483647) : Int32.ofInt a ≤ Int32.ofInt b ↔ a ≤ b := by
  rw [Int32.le_iff_toInt_le, rg_toInt ha, rg_toInt hb]
theorem rg_lt {a b : Int} (ha : -2147483648 ≤ a ∧ a ≤ 2147483647) (hb : -2147483648 ≤ b ∧ b ≤ 2147483647) : Int32.ofInt a < Int32.ofInt b ↔ a < b := by
  rw [Int32.lt_iff_toInt_lt, rg_toInt ha, rg_toInt hb]
theorem rg_eq {a b : Int} (ha : -2147483648 ≤ a ∧ a ≤ 2147483647) (hb : -2147483648 ≤ b ∧ b ≤ 2147483647) : Int32.ofInt a = Int32.ofInt b ↔ a = b := by
  constructor
  · intro q
    have := congrArg Int32.toInt q
    rwa [rg_toInt ha, rg_toInt hb] at this
  · intro q; rw [q]
theorem rg_in {a : Int} {n : Nat} (h0 : 0 ≤ a ∧ a < n) (hn : n ≤ 4096) : vp_in (Int32.ofInt a) n := by
  rw [vp_in_iff, rg_toInt (by omega)]
  exact h0
theorem rg_clamp {a : Int} (h0 : 0 ≤ a ∧ a ≤ 2147483647) : (Int32.ofInt a).toNatClampNeg = a.toNat := by
  rw [Int32.toNatClampNeg_ofInt_of_le (by omega) (by omega)]
theorem i0 : (0 : Int32) = Int32.ofInt 0 := rfl
def band (a b : Int) : Int := (Int32.ofInt a &&& Int32.ofInt b).toInt
def bor (a b : Int) : Int := (Int32.ofInt a ||| Int32.ofInt b).toInt
def bxor (a b : Int) : Int := (Int32.ofInt a ^^^ Int32.ofInt b).toInt
def bshl (a b : Int) : Int := (Int32.ofInt a <<< (Int32.ofInt b &&& 31)).toInt
def bshr (a b : Int) : Int := (Int32.ofInt a >>> (Int32.ofInt b &&& 31)).toInt
def bushr (a b : Int) : Int := (((Int32.ofInt a).toUInt32 >>> ((Int32.ofInt b).toUInt32 &&& Int32.toUInt32 31)).toInt32).toInt
def bandl (a b : Int) : Int := (Int64.ofInt a &&& Int64.ofInt b).toInt
theorem xj_iconst {sc : Option (Nat × (Int → Int))} {d : Nat} {k : MI} {h : Hp} {pc pc2 : Nat} {lo : Lo} {st : List Value} {Q : Int → Hp → Prop} {n : Int} (hd : decode k.2.1 pc = .ok (.iconst n, 1)) (hp : pc + 1 = pc2) (kk : XJ sc d k h pc2 lo (vi n :: st) Q) : XJ sc d k h pc lo st Q := by
  subst hp
  intro p l e R s m args below meth c Z G A cells slots C w z r f H locs ls hP hS hl
  exact lv_iconst C.1 C.2.1 hd rfl (kk p l e R s m args below meth c Z G A cells slots C w z r f H locs ls hP hS hl)
theorem xj_bipush {sc : Option (Nat × (Int → Int))} {d : Nat} {k : MI} {h : Hp} {pc pc2 : Nat} {lo : Lo} {st : List Value} {Q : Int → Hp → Prop} {n : Int} (hd : decode k.2.1 pc = .ok (.bipush n, 2)) (hp : pc + 2 = pc2) (hn : -128 ≤ n ∧ n ≤ 127) (kk : XJ sc d k h pc2 lo (vi n :: st) Q) : XJ sc d k h pc lo st Q := by
  subst hp
  intro p l e R s m args below meth c Z G A cells slots C w z r f H locs ls hP hS hl
  exact lv_bipush C.1 C.2.1 hd (Int8.toInt32_ofInt hn.1 hn.2) (kk p l e R s m args below meth c Z G A cells slots C w z r f H locs ls hP hS hl)
theorem xj_sipush {sc : Option (Nat × (Int → Int))} {d : Nat} {k : MI} {h : Hp} {pc pc2 : Nat} {lo : Lo} {st : List Value} {Q : Int → Hp → Prop} {n : Int} (hd : decode k.2.1 pc = .ok (.sipush n, 3)) (hp : pc + 3 = pc2) (hn : -32768 ≤ n ∧ n ≤ 32767) (kk : XJ sc d k h pc2 lo (vi n :: st) Q) : XJ sc d k h pc lo st Q := by
  subst hp
  intro p l e R s m args below meth c Z G A cells slots C w z r f H locs ls hP hS hl
  exact lv_sipush C.1 C.2.1 hd (Int16.toInt32_ofInt hn.1 hn.2) (kk p l e R s m args below meth c Z G A cells slots C w z r f H locs ls hP hS hl)
theorem xj_ldc {sc : Option (Nat × (Int → Int))} {d : Nat} {k : MI} {h : Hp} {pc pc2 : Nat} {lo : Lo} {st : List Value} {Q : Int → Hp → Prop} {i : Nat} {n : Int} {cs : String} (hd : decode k.2.1 pc = .ok (.ldc i, 2)) (hp : pc + 2 = pc2) (hc : Cond.constant cs i (Int32.ofInt n) ∈ wT) (he : k.1.cls = cs) (kk : XJ sc d k h pc2 lo (vi n :: st) Q) : XJ sc d k h pc lo st Q := by
  subst hp
  intro p l e R s m args below meth c Z G A cells slots C w z r f H locs ls hP hS hl
  exact lv_ldc C.1 C.2.1 (he ▸ C.2.2.2.2.1) (C.2.2.2.2.2.1 _ hc) hd (kk p l e R s m args below meth c Z G A cells slots C w z r f H locs ls hP hS hl)
theorem xj_ldcw {sc : Option (Nat × (Int → Int))} {d : Nat} {k : MI} {h : Hp} {pc pc2 : Nat} {lo : Lo} {st : List Value} {Q : Int → Hp → Prop} {i : Nat} {n : Int} {cs : String} (hd : decode k.2.1 pc = .ok (.ldc_w i, 3)) (hp : pc + 3 = pc2) (hc : Cond.constant cs i (Int32.ofInt n) ∈ wT) (he : k.1.cls = cs) (kk : XJ sc d k h pc2 lo (vi n :: st) Q) : XJ sc d k h pc lo st Q := by
  subst hp
  intro p l e R s m args below meth c Z G A cells slots C w z r f H locs ls hP hS hl
  exact lv_ldcw C.1 C.2.1 (he ▸ C.2.2.2.2.1) (C.2.2.2.2.2.1 _ hc) hd (kk p l e R s m args below meth c Z G A cells slots C w z r f H locs ls hP hS hl)
theorem xj_ldc2 {sc : Option (Nat × (Int → Int))} {d : Nat} {k : MI} {h : Hp} {pc pc2 : Nat} {lo : Lo} {st : List Value} {Q : Int → Hp → Prop} {i : Nat} {n : Int} {cs : String} (hd : decode k.2.1 pc = .ok (.ldc2_w i, 3)) (hp : pc + 3 = pc2) (hc : Cond.constantLong cs i (Int64.ofInt n) ∈ wT) (he : k.1.cls = cs) (kk : XJ sc d k h pc2 lo (vl n :: st) Q) : XJ sc d k h pc lo st Q := by
  subst hp
  intro p l e R s m args below meth c Z G A cells slots C w z r f H locs ls hP hS hl
  exact lv_ldc2 C.1 C.2.1 (he ▸ C.2.2.2.2.1) (C.2.2.2.2.2.1 _ hc) hd (kk p l e R s m args below meth c Z G A cells slots C w z r f H locs ls hP hS hl)
theorem xj_iload_n {sc : Option (Nat × (Int → Int))} {d : Nat} {k : MI} {h : Hp} {pc pc2 : Nat} {lo : Lo} {st : List Value} {Q : Int → Hp → Prop} {a : Int} {j : _root_.Fin 4} {i : Nat} (hd : decode k.2.1 pc = .ok (.iload_n j, 1)) (hp : pc + 1 = pc2) (hj : (j : Nat) = i) (hv : lo[i]? = some (some (vi a))) (kk : XJ sc d k h pc2 lo (vi a :: st) Q) : XJ sc d k h pc lo st Q := by
  subst hp
  intro p l e R s m args below meth c Z G A cells slots C w z r f H locs ls hP hS hl
  exact lv_iload_n C.1 C.2.1 hd hj (LH_at hl hv) (kk p l e R s m args below meth c Z G A cells slots C w z r f H locs ls hP hS hl)
theorem xj_iload {sc : Option (Nat × (Int → Int))} {d : Nat} {k : MI} {h : Hp} {pc pc2 : Nat} {lo : Lo} {st : List Value} {Q : Int → Hp → Prop} {a : Int} {i : Nat} (hd : decode k.2.1 pc = .ok (.iload i, 2)) (hp : pc + 2 = pc2) (hv : lo[i]? = some (some (vi a))) (kk : XJ sc d k h pc2 lo (vi a :: st) Q) : XJ sc d k h pc lo st Q := by
  subst hp
  intro p l e R s m args below meth c Z G A cells slots C w z r f H locs ls hP hS hl
  exact lv_iload C.1 C.2.1 hd (LH_at hl hv) (kk p l e R s m args below meth c Z G A cells slots C w z r f H locs ls hP hS hl)
theorem xj_lload_n {sc : Option (Nat × (Int → Int))} {d : Nat} {k : MI} {h : Hp} {pc pc2 : Nat} {lo : Lo} {st : List Value} {Q : Int → Hp → Prop} {a : Int} {j : _root_.Fin 4} {i : Nat} (hd : decode k.2.1 pc = .ok (.lload_n j, 1)) (hp : pc + 1 = pc2) (hj : (j : Nat) = i) (hv : lo[i]? = some (some (vl a))) (kk : XJ sc d k h pc2 lo (vl a :: st) Q) : XJ sc d k h pc lo st Q := by
  subst hp
  intro p l e R s m args below meth c Z G A cells slots C w z r f H locs ls hP hS hl
  exact lv_lload_n C.1 C.2.1 hd hj (LH_at hl hv) (kk p l e R s m args below meth c Z G A cells slots C w z r f H locs ls hP hS hl)
theorem xj_lload {sc : Option (Nat × (Int → Int))} {d : Nat} {k : MI} {h : Hp} {pc pc2 : Nat} {lo : Lo} {st : List Value} {Q : Int → Hp → Prop} {a : Int} {i : Nat} (hd : decode k.2.1 pc = .ok (.lload i, 2)) (hp : pc + 2 = pc2) (hv : lo[i]? = some (some (vl a))) (kk : XJ sc d k h pc2 lo (vl a :: st) Q) : XJ sc d k h pc lo st Q := by
  subst hp
  intro p l e R s m args below meth c Z G A cells slots C w z r f H locs ls hP hS hl
  exact lv_lload C.1 C.2.1 hd (LH_at hl hv) (kk p l e R s m args below meth c Z G A cells slots C w z r f H locs ls hP hS hl)
theorem xj_aload_n {sc : Option (Nat × (Int → Int))} {d : Nat} {k : MI} {h : Hp} {pc pc2 : Nat} {lo : Lo} {st : List Value} {Q : Int → Hp → Prop} {a : Nat} {j : _root_.Fin 4} {i : Nat} (hd : decode k.2.1 pc = .ok (.aload_n j, 1)) (hp : pc + 1 = pc2) (hj : (j : Nat) = i) (hv : lo[i]? = some (some (.ref a))) (kk : XJ sc d k h pc2 lo (.ref a :: st) Q) : XJ sc d k h pc lo st Q := by
  subst hp
  intro p l e R s m args below meth c Z G A cells slots C w z r f H locs ls hP hS hl
  exact lv_aload_n C.1 C.2.1 hd hj (LH_at hl hv) (kk p l e R s m args below meth c Z G A cells slots C w z r f H locs ls hP hS hl)
theorem xj_aload {sc : Option (Nat × (Int → Int))} {d : Nat} {k : MI} {h : Hp} {pc pc2 : Nat} {lo : Lo} {st : List Value} {Q : Int → Hp → Prop} {a : Nat} {i : Nat} (hd : decode k.2.1 pc = .ok (.aload i, 2)) (hp : pc + 2 = pc2) (hv : lo[i]? = some (some (.ref a))) (kk : XJ sc d k h pc2 lo (.ref a :: st) Q) : XJ sc d k h pc lo st Q := by
  subst hp
  intro p l e R s m args below meth c Z G A cells slots C w z r f H locs ls hP hS hl
  exact lv_aload C.1 C.2.1 hd (LH_at hl hv) (kk p l e R s m args below meth c Z G A cells slots C w z r f H locs ls hP hS hl)
theorem xg_istore_n {sc : Option (Nat × (Int → Int))} {d : Nat} {k : MI} {h : Hp} {pc pc2 : Nat} {lo : Lo} {st : List Value} {Q : Int → Hp → Prop} {a : Int} {j : _root_.Fin 4} {i : Nat} (hd : decode k.2.1 pc = .ok (.istore_n j, 1)) (hp : pc + 1 = pc2) (hj : (j : Nat) = i) (hi : i < k.2.2.1) (hq : noL lo i = true) (kk : XJ sc d k h pc2 (lo.set i (some (vi a))) st Q) : XJ sc d k h pc lo (vi a :: st) Q := by
  subst hp
  intro p l e R s m args below meth c Z G A cells slots C w z r f H locs ls hP hS hl
  exact lv_istore_n C.1 C.2.1 hd hj hl hi rfl (fun ls2 h2 => kk p l e R s m args below meth c Z G A cells slots C w z r f H locs ls2 hP hS (LH_mono h2 (lp_set1 hq)))
theorem xg_istore {sc : Option (Nat × (Int → Int))} {d : Nat} {k : MI} {h : Hp} {pc pc2 : Nat} {lo : Lo} {st : List Value} {Q : Int → Hp → Prop} {a : Int} {i : Nat} (hd : decode k.2.1 pc = .ok (.istore i, 2)) (hp : pc + 2 = pc2) (hi : i < k.2.2.1) (hq : noL lo i = true) (kk : XJ sc d k h pc2 (lo.set i (some (vi a))) st Q) : XJ sc d k h pc lo (vi a :: st) Q := by
  subst hp
  intro p l e R s m args below meth c Z G A cells slots C w z r f H locs ls hP hS hl
  exact lv_istore C.1 C.2.1 hd hl hi rfl (fun ls2 h2 => kk p l e R s m args below meth c Z G A cells slots C w z r f H locs ls2 hP hS (LH_mono h2 (lp_set1 hq)))
theorem xg_astore_n {sc : Option (Nat × (Int → Int))} {d : Nat} {k : MI} {h : Hp} {pc pc2 : Nat} {lo : Lo} {st : List Value} {Q : Int → Hp → Prop} {a : Nat} {j : _root_.Fin 4} {i : Nat} (hd : decode k.2.1 pc = .ok (.astore_n j, 1)) (hp : pc + 1 = pc2) (hj : (j : Nat) = i) (hi : i < k.2.2.1) (hq : noL lo i = true) (kk : XJ sc d k h pc2 (lo.set i (some (.ref a))) st Q) : XJ sc d k h pc lo (.ref a :: st) Q := by
  subst hp
  intro p l e R s m args below meth c Z G A cells slots C w z r f H locs ls hP hS hl
  exact lv_astore_n C.1 C.2.1 hd hj hl hi rfl (fun ls2 h2 => kk p l e R s m args below meth c Z G A cells slots C w z r f H locs ls2 hP hS (LH_mono h2 (lp_set1 hq)))
theorem xg_astore {sc : Option (Nat × (Int → Int))} {d : Nat} {k : MI} {h : Hp} {pc pc2 : Nat} {lo : Lo} {st : List Value} {Q : Int → Hp → Prop} {a : Nat} {i : Nat} (hd : decode k.2.1 pc = .ok (.astore i, 2)) (hp : pc + 2 = pc2) (hi : i < k.2.2.1) (hq : noL lo i = true) (kk : XJ sc d k h pc2 (lo.set i (some (.ref a))) st Q) : XJ sc d k h pc lo (.ref a :: st) Q := by
  subst hp
  intro p l e R s m args below meth c Z G A cells slots C w z r f H locs ls hP hS hl
  exact lv_astore C.1 C.2.1 hd hl hi rfl (fun ls2 h2 => kk p l e R s m args below meth c Z G A cells slots C w z r f H locs ls2 hP hS (LH_mono h2 (lp_set1 hq)))
theorem xg_lstore_n {sc : Option (Nat × (Int → Int))} {d : Nat} {k : MI} {h : Hp} {pc pc2 : Nat} {lo : Lo} {st : List Value} {Q : Int → Hp → Prop} {a : Int} {j : _root_.Fin 4} {i : Nat} (hd : decode k.2.1 pc = .ok (.lstore_n j, 1)) (hp : pc + 1 = pc2) (hj : (j : Nat) = i) (hi : i + 1 < k.2.2.1) (hq : noL lo i = true) (kk : XJ sc d k h pc2 ((lo.set i (some (vl a))).set (i + 1) none) st Q) : XJ sc d k h pc lo (vl a :: st) Q := by
  subst hp
  intro p l e R s m args below meth c Z G A cells slots C w z r f H locs ls hP hS hl
  exact lv_lstore_n C.1 C.2.1 hd hj hl hi rfl (fun ls2 h2 => kk p l e R s m args below meth c Z G A cells slots C w z r f H locs ls2 hP hS (LH_mono h2 (lp_set2 hq)))
theorem xg_lstore {sc : Option (Nat × (Int → Int))} {d : Nat} {k : MI} {h : Hp} {pc pc2 : Nat} {lo : Lo} {st : List Value} {Q : Int → Hp → Prop} {a : Int} {i : Nat} (hd : decode k.2.1 pc = .ok (.lstore i, 2)) (hp : pc + 2 = pc2) (hi : i + 1 < k.2.2.1) (hq : noL lo i = true) (kk : XJ sc d k h pc2 ((lo.set i (some (vl a))).set (i + 1) none) st Q) : XJ sc d k h pc lo (vl a :: st) Q := by
  subst hp
  intro p l e R s m args below meth c Z G A cells slots C w z r f H locs ls hP hS hl
  exact lv_lstore C.1 C.2.1 hd hl hi rfl (fun ls2 h2 => kk p l e R s m args below meth c Z G A cells slots C w z r f H locs ls2 hP hS (LH_mono h2 (lp_set2 hq)))
theorem lp_idx {G : Gw} {lo : Lo} {i : Nat} {v : Value} (h : lo[i]? = some (some v)) : ∃ q : Nat, (lp G 0 lo)[q]? = some (i, cv G v) := by
  have h1 : (i, cv G v) ∈ lp G 0 lo := (lp_mem lo 0 _).mpr ⟨i, v, h, by simp⟩
  exact List.getElem?_of_mem h1
theorem xg_iinc {sc : Option (Nat × (Int → Int))} {d : Nat} {k : MI} {h : Hp} {pc pc2 : Nat} {lo : Lo} {st : List Value} {Q : Int → Hp → Prop} {a n : Int} {i : Nat} (hd : decode k.2.1 pc = .ok (.iinc i n, 3)) (hp : pc + 3 = pc2) (hi : i < k.2.2.1) (hq : noL lo i = true) (hv : lo[i]? = some (some (vi a))) (kk : XJ sc d k h pc2 (lo.set i (some (vi (a + n)))) st Q) : XJ sc d k h pc lo st Q := by
  subst hp
  intro p l e R s m args below meth c Z G A cells slots C w z r f H locs ls hP hS hl
  obtain ⟨q, hq1⟩ := lp_idx (G := G) hv
  exact lv_iinc (v := Int32.ofInt (a + n)) C.1 C.2.1 hd hl hq1 (Int32.ofInt_add a n).symm hi rfl (fun ls2 h2 => kk p l e R s m args below meth c Z G A cells slots C w z r f H locs ls2 hP hS (LH_mono h2 (lp_set1 hq)))
theorem xj_istore0 {sc : Option (Nat × (Int → Int))} {d : Nat} {k : MI} {h : Hp} {pc pc2 : Nat} {lo : Lo} {old : Option Value} {st : List Value} {Q : Int → Hp → Prop} {a : Int} {j : _root_.Fin 4} (hd : decode k.2.1 pc = .ok (.istore_n j, 1)) (hp : pc + 1 = pc2) (hj : (j : Nat) = 0) (hi : 0 < k.2.2.1) (hq : noL (old :: lo) 0 = true) (kk : XJ sc d k h pc2 (some (vi a) :: lo) st Q) : XJ sc d k h pc (old :: lo) (vi a :: st) Q := xg_istore_n hd hp hj hi hq kk
theorem xj_iinc0 {sc : Option (Nat × (Int → Int))} {d : Nat} {k : MI} {h : Hp} {pc pc2 : Nat} {lo : Lo} {st : List Value} {Q : Int → Hp → Prop} {a n : Int} (hd : decode k.2.1 pc = .ok (.iinc 0 n, 3)) (hp : pc + 3 = pc2) (hi : 0 < k.2.2.1) (hq : noL (some (vi a) :: lo) 0 = true) (kk : XJ sc d k h pc2 (some (vi (a + n)) :: lo) st Q) : XJ sc d k h pc (some (vi a) :: lo) st Q := xg_iinc hd hp hi hq rfl kk
theorem xj_istore1 {sc : Option (Nat × (Int → Int))} {d : Nat} {k : MI} {h : Hp} {pc pc2 : Nat} {lo : Lo} {v0 : Option Value} {old : Option Value} {st : List Value} {Q : Int → Hp → Prop} {a : Int} {j : _root_.Fin 4} (hd : decode k.2.1 pc = .ok (.istore_n j, 1)) (hp : pc + 1 = pc2) (hj : (j : Nat) = 1) (hi : 1 < k.2.2.1) (hq : noL (v0 :: old :: lo) 1 = true) (kk : XJ sc d k h pc2 (v0 :: some (vi a) :: lo) st Q) : XJ sc d k h pc (v0 :: old :: lo) (vi a :: st) Q := xg_istore_n hd hp hj hi hq kk
theorem xj_astore1 {sc : Option (Nat × (Int → Int))} {d : Nat} {k : MI} {h : Hp} {pc pc2 : Nat} {lo : Lo} {v0 : Option Value} {old : Option Value} {st : List Value} {Q : Int → Hp → Prop} {a : Nat} {j : _root_.Fin 4} (hd : decode k.2.1 pc = .ok (.astore_n j, 1)) (hp : pc + 1 = pc2) (hj : (j : Nat) = 1) (hi : 1 < k.2.2.1) (hq : noL (v0 :: old :: lo) 1 = true) (kk : XJ sc d k h pc2 (v0 :: some (.ref a) :: lo) st Q) : XJ sc d k h pc (v0 :: old :: lo) (.ref a :: st) Q := xg_astore_n hd hp hj hi hq kk
theorem xj_iinc1 {sc : Option (Nat × (Int → Int))} {d : Nat} {k : MI} {h : Hp} {pc pc2 : Nat} {lo : Lo} {v0 : Option Value} {st : List Value} {Q : Int → Hp → Prop} {a n : Int} (hd : decode k.2.1 pc = .ok (.iinc 1 n, 3)) (hp : pc + 3 = pc2) (hi : 1 < k.2.2.1) (hq : noL (v0 :: some (vi a) :: lo) 1 = true) (kk : XJ sc d k h pc2 (v0 :: some (vi (a + n)) :: lo) st Q) : XJ sc d k h pc (v0 :: some (vi a) :: lo) st Q := xg_iinc hd hp hi hq rfl kk
theorem xj_istore2 {sc : Option (Nat × (Int → Int))} {d : Nat} {k : MI} {h : Hp} {pc pc2 : Nat} {lo : Lo} {v0 v1 : Option Value} {old : Option Value} {st : List Value} {Q : Int → Hp → Prop} {a : Int} {j : _root_.Fin 4} (hd : decode k.2.1 pc = .ok (.istore_n j, 1)) (hp : pc + 1 = pc2) (hj : (j : Nat) = 2) (hi : 2 < k.2.2.1) (hq : noL (v0 :: v1 :: old :: lo) 2 = true) (kk : XJ sc d k h pc2 (v0 :: v1 :: some (vi a) :: lo) st Q) : XJ sc d k h pc (v0 :: v1 :: old :: lo) (vi a :: st) Q := xg_istore_n hd hp hj hi hq kk
theorem xj_astore2 {sc : Option (Nat × (Int → Int))} {d : Nat} {k : MI} {h : Hp} {pc pc2 : Nat} {lo : Lo} {v0 v1 : Option Value} {old : Option Value} {st : List Value} {Q : Int → Hp → Prop} {a : Nat} {j : _root_.Fin 4} (hd : decode k.2.1 pc = .ok (.astore_n j, 1)) (hp : pc + 1 = pc2) (hj : (j : Nat) = 2) (hi : 2 < k.2.2.1) (hq : noL (v0 :: v1 :: old :: lo) 2 = true) (kk : XJ sc d k h pc2 (v0 :: v1 :: some (.ref a) :: lo) st Q) : XJ sc d k h pc (v0 :: v1 :: old :: lo) (.ref a :: st) Q := xg_astore_n hd hp hj hi hq kk
theorem xj_iinc2 {sc : Option (Nat × (Int → Int))} {d : Nat} {k : MI} {h : Hp} {pc pc2 : Nat} {lo : Lo} {v0 v1 : Option Value} {st : List Value} {Q : Int → Hp → Prop} {a n : Int} (hd : decode k.2.1 pc = .ok (.iinc 2 n, 3)) (hp : pc + 3 = pc2) (hi : 2 < k.2.2.1) (hq : noL (v0 :: v1 :: some (vi a) :: lo) 2 = true) (kk : XJ sc d k h pc2 (v0 :: v1 :: some (vi (a + n)) :: lo) st Q) : XJ sc d k h pc (v0 :: v1 :: some (vi a) :: lo) st Q := xg_iinc hd hp hi hq rfl kk
theorem xj_istore3 {sc : Option (Nat × (Int → Int))} {d : Nat} {k : MI} {h : Hp} {pc pc2 : Nat} {lo : Lo} {v0 v1 v2 : Option Value} {old : Option Value} {st : List Value} {Q : Int → Hp → Prop} {a : Int} {j : _root_.Fin 4} (hd : decode k.2.1 pc = .ok (.istore_n j, 1)) (hp : pc + 1 = pc2) (hj : (j : Nat) = 3) (hi : 3 < k.2.2.1) (hq : noL (v0 :: v1 :: v2 :: old :: lo) 3 = true) (kk : XJ sc d k h pc2 (v0 :: v1 :: v2 :: some (vi a) :: lo) st Q) : XJ sc d k h pc (v0 :: v1 :: v2 :: old :: lo) (vi a :: st) Q := xg_istore_n hd hp hj hi hq kk
theorem xj_iinc3 {sc : Option (Nat × (Int → Int))} {d : Nat} {k : MI} {h : Hp} {pc pc2 : Nat} {lo : Lo} {v0 v1 v2 : Option Value} {st : List Value} {Q : Int → Hp → Prop} {a n : Int} (hd : decode k.2.1 pc = .ok (.iinc 3 n, 3)) (hp : pc + 3 = pc2) (hi : 3 < k.2.2.1) (hq : noL (v0 :: v1 :: v2 :: some (vi a) :: lo) 3 = true) (kk : XJ sc d k h pc2 (v0 :: v1 :: v2 :: some (vi (a + n)) :: lo) st Q) : XJ sc d k h pc (v0 :: v1 :: v2 :: some (vi a) :: lo) st Q := xg_iinc hd hp hi hq rfl kk
theorem xj_istore4 {sc : Option (Nat × (Int → Int))} {d : Nat} {k : MI} {h : Hp} {pc pc2 : Nat} {lo : Lo} {v0 v1 v2 v3 : Option Value} {old : Option Value} {st : List Value} {Q : Int → Hp → Prop} {a : Int} (hd : decode k.2.1 pc = .ok (.istore 4, 2)) (hp : pc + 2 = pc2) (hi : 4 < k.2.2.1) (hq : noL (v0 :: v1 :: v2 :: v3 :: old :: lo) 4 = true) (kk : XJ sc d k h pc2 (v0 :: v1 :: v2 :: v3 :: some (vi a) :: lo) st Q) : XJ sc d k h pc (v0 :: v1 :: v2 :: v3 :: old :: lo) (vi a :: st) Q := xg_istore hd hp hi hq kk
theorem xj_iinc4 {sc : Option (Nat × (Int → Int))} {d : Nat} {k : MI} {h : Hp} {pc pc2 : Nat} {lo : Lo} {v0 v1 v2 v3 : Option Value} {st : List Value} {Q : Int → Hp → Prop} {a n : Int} (hd : decode k.2.1 pc = .ok (.iinc 4 n, 3)) (hp : pc + 3 = pc2) (hi : 4 < k.2.2.1) (hq : noL (v0 :: v1 :: v2 :: v3 :: some (vi a) :: lo) 4 = true) (kk : XJ sc d k h pc2 (v0 :: v1 :: v2 :: v3 :: some (vi (a + n)) :: lo) st Q) : XJ sc d k h pc (v0 :: v1 :: v2 :: v3 :: some (vi a) :: lo) st Q := xg_iinc hd hp hi hq rfl kk
theorem xj_istore5 {sc : Option (Nat × (Int → Int))} {d : Nat} {k : MI} {h : Hp} {pc pc2 : Nat} {lo : Lo} {v0 v1 v2 v3 v4 : Option Value} {old : Option Value} {st : List Value} {Q : Int → Hp → Prop} {a : Int} (hd : decode k.2.1 pc = .ok (.istore 5, 2)) (hp : pc + 2 = pc2) (hi : 5 < k.2.2.1) (hq : noL (v0 :: v1 :: v2 :: v3 :: v4 :: old :: lo) 5 = true) (kk : XJ sc d k h pc2 (v0 :: v1 :: v2 :: v3 :: v4 :: some (vi a) :: lo) st Q) : XJ sc d k h pc (v0 :: v1 :: v2 :: v3 :: v4 :: old :: lo) (vi a :: st) Q := xg_istore hd hp hi hq kk
theorem xj_iinc5 {sc : Option (Nat × (Int → Int))} {d : Nat} {k : MI} {h : Hp} {pc pc2 : Nat} {lo : Lo} {v0 v1 v2 v3 v4 : Option Value} {st : List Value} {Q : Int → Hp → Prop} {a n : Int} (hd : decode k.2.1 pc = .ok (.iinc 5 n, 3)) (hp : pc + 3 = pc2) (hi : 5 < k.2.2.1) (hq : noL (v0 :: v1 :: v2 :: v3 :: v4 :: some (vi a) :: lo) 5 = true) (kk : XJ sc d k h pc2 (v0 :: v1 :: v2 :: v3 :: v4 :: some (vi (a + n)) :: lo) st Q) : XJ sc d k h pc (v0 :: v1 :: v2 :: v3 :: v4 :: some (vi a) :: lo) st Q := xg_iinc hd hp hi hq rfl kk
theorem xj_istore6 {sc : Option (Nat × (Int → Int))} {d : Nat} {k : MI} {h : Hp} {pc pc2 : Nat} {lo : Lo} {v0 v1 v2 v3 v4 v5 : Option Value} {old : Option Value} {st : List Value} {Q : Int → Hp → Prop} {a : Int} (hd : decode k.2.1 pc = .ok (.istore 6, 2)) (hp : pc + 2 = pc2) (hi : 6 < k.2.2.1) (hq : noL (v0 :: v1 :: v2 :: v3 :: v4 :: v5 :: old :: lo) 6 = true) (kk : XJ sc d k h pc2 (v0 :: v1 :: v2 :: v3 :: v4 :: v5 :: some (vi a) :: lo) st Q) : XJ sc d k h pc (v0 :: v1 :: v2 :: v3 :: v4 :: v5 :: old :: lo) (vi a :: st) Q := xg_istore hd hp hi hq kk
theorem xj_iinc6 {sc : Option (Nat × (Int → Int))} {d : Nat} {k : MI} {h : Hp} {pc pc2 : Nat} {lo : Lo} {v0 v1 v2 v3 v4 v5 : Option Value} {st : List Value} {Q : Int → Hp → Prop} {a n : Int} (hd : decode k.2.1 pc = .ok (.iinc 6 n, 3)) (hp : pc + 3 = pc2) (hi : 6 < k.2.2.1) (hq : noL (v0 :: v1 :: v2 :: v3 :: v4 :: v5 :: some (vi a) :: lo) 6 = true) (kk : XJ sc d k h pc2 (v0 :: v1 :: v2 :: v3 :: v4 :: v5 :: some (vi (a + n)) :: lo) st Q) : XJ sc d k h pc (v0 :: v1 :: v2 :: v3 :: v4 :: v5 :: some (vi a) :: lo) st Q := xg_iinc hd hp hi hq rfl kk
theorem xj_istore7 {sc : Option (Nat × (Int → Int))} {d : Nat} {k : MI} {h : Hp} {pc pc2 : Nat} {lo : Lo} {v0 v1 v2 v3 v4 v5 v6 : Option Value} {old : Option Value} {st : List Value} {Q : Int → Hp → Prop} {a : Int} (hd : decode k.2.1 pc = .ok (.istore 7, 2)) (hp : pc + 2 = pc2) (hi : 7 < k.2.2.1) (hq : noL (v0 :: v1 :: v2 :: v3 :: v4 :: v5 :: v6 :: old :: lo) 7 = true) (kk : XJ sc d k h pc2 (v0 :: v1 :: v2 :: v3 :: v4 :: v5 :: v6 :: some (vi a) :: lo) st Q) : XJ sc d k h pc (v0 :: v1 :: v2 :: v3 :: v4 :: v5 :: v6 :: old :: lo) (vi a :: st) Q := xg_istore hd hp hi hq kk
theorem xj_iinc7 {sc : Option (Nat × (Int → Int))} {d : Nat} {k : MI} {h : Hp} {pc pc2 : Nat} {lo : Lo} {v0 v1 v2 v3 v4 v5 v6 : Option Value} {st : List Value} {Q : Int → Hp → Prop} {a n : Int} (hd : decode k.2.1 pc = .ok (.iinc 7 n, 3)) (hp : pc + 3 = pc2) (hi : 7 < k.2.2.1) (hq : noL (v0 :: v1 :: v2 :: v3 :: v4 :: v5 :: v6 :: some (vi a) :: lo) 7 = true) (kk : XJ sc d k h pc2 (v0 :: v1 :: v2 :: v3 :: v4 :: v5 :: v6 :: some (vi (a + n)) :: lo) st Q) : XJ sc d k h pc (v0 :: v1 :: v2 :: v3 :: v4 :: v5 :: v6 :: some (vi a) :: lo) st Q := xg_iinc hd hp hi hq rfl kk
theorem xj_istore8 {sc : Option (Nat × (Int → Int))} {d : Nat} {k : MI} {h : Hp} {pc pc2 : Nat} {lo : Lo} {v0 v1 v2 v3 v4 v5 v6 v7 : Option Value} {old : Option Value} {st : List Value} {Q : Int → Hp → Prop} {a : Int} (hd : decode k.2.1 pc = .ok (.istore 8, 2)) (hp : pc + 2 = pc2) (hi : 8 < k.2.2.1) (hq : noL (v0 :: v1 :: v2 :: v3 :: v4 :: v5 :: v6 :: v7 :: old :: lo) 8 = true) (kk : XJ sc d k h pc2 (v0 :: v1 :: v2 :: v3 :: v4 :: v5 :: v6 :: v7 :: some (vi a) :: lo) st Q) : XJ sc d k h pc (v0 :: v1 :: v2 :: v3 :: v4 :: v5 :: v6 :: v7 :: old :: lo) (vi a :: st) Q := xg_istore hd hp hi hq kk
theorem xj_iinc8 {sc : Option (Nat × (Int → Int))} {d : Nat} {k : MI} {h : Hp} {pc pc2 : Nat} {lo : Lo} {v0 v1 v2 v3 v4 v5 v6 v7 : Option Value} {st : List Value} {Q : Int → Hp → Prop} {a n : Int} (hd : decode k.2.1 pc = .ok (.iinc 8 n, 3)) (hp : pc + 3 = pc2) (hi : 8 < k.2.2.1) (hq : noL (v0 :: v1 :: v2 :: v3 :: v4 :: v5 :: v6 :: v7 :: some (vi a) :: lo) 8 = true) (kk : XJ sc d k h pc2 (v0 :: v1 :: v2 :: v3 :: v4 :: v5 :: v6 :: v7 :: some (vi (a + n)) :: lo) st Q) : XJ sc d k h pc (v0 :: v1 :: v2 :: v3 :: v4 :: v5 :: v6 :: v7 :: some (vi a) :: lo) st Q := xg_iinc hd hp hi hq rfl kk
theorem xj_istore9 {sc : Option (Nat × (Int → Int))} {d : Nat} {k : MI} {h : Hp} {pc pc2 : Nat} {lo : Lo} {v0 v1 v2 v3 v4 v5 v6 v7 v8 : Option Value} {old : Option Value} {st : List Value} {Q : Int → Hp → Prop} {a : Int} (hd : decode k.2.1 pc = .ok (.istore 9, 2)) (hp : pc + 2 = pc2) (hi : 9 < k.2.2.1) (hq : noL (v0 :: v1 :: v2 :: v3 :: v4 :: v5 :: v6 :: v7 :: v8 :: old :: lo) 9 = true) (kk : XJ sc d k h pc2 (v0 :: v1 :: v2 :: v3 :: v4 :: v5 :: v6 :: v7 :: v8 :: some (vi a) :: lo) st Q) : XJ sc d k h pc (v0 :: v1 :: v2 :: v3 :: v4 :: v5 :: v6 :: v7 :: v8 :: old :: lo) (vi a :: st) Q := xg_istore hd hp hi hq kk
theorem xj_iinc9 {sc : Option (Nat × (Int → Int))} {d : Nat} {k : MI} {h : Hp} {pc pc2 : Nat} {lo : Lo} {v0 v1 v2 v3 v4 v5 v6 v7 v8 : Option Value} {st : List Value} {Q : Int → Hp → Prop} {a n : Int} (hd : decode k.2.1 pc = .ok (.iinc 9 n, 3)) (hp : pc + 3 = pc2) (hi : 9 < k.2.2.1) (hq : noL (v0 :: v1 :: v2 :: v3 :: v4 :: v5 :: v6 :: v7 :: v8 :: some (vi a) :: lo) 9 = true) (kk : XJ sc d k h pc2 (v0 :: v1 :: v2 :: v3 :: v4 :: v5 :: v6 :: v7 :: v8 :: some (vi (a + n)) :: lo) st Q) : XJ sc d k h pc (v0 :: v1 :: v2 :: v3 :: v4 :: v5 :: v6 :: v7 :: v8 :: some (vi a) :: lo) st Q := xg_iinc hd hp hi hq rfl kk
theorem xj_istore10 {sc : Option (Nat × (Int → Int))} {d : Nat} {k : MI} {h : Hp} {pc pc2 : Nat} {lo : Lo} {v0 v1 v2 v3 v4 v5 v6 v7 v8 v9 : Option Value} {old : Option Value} {st : List Value} {Q : Int → Hp → Prop} {a : Int} (hd : decode k.2.1 pc = .ok (.istore 10, 2)) (hp : pc + 2 = pc2) (hi : 10 < k.2.2.1) (hq : noL (v0 :: v1 :: v2 :: v3 :: v4 :: v5 :: v6 :: v7 :: v8 :: v9 :: old :: lo) 10 = true) (kk : XJ sc d k h pc2 (v0 :: v1 :: v2 :: v3 :: v4 :: v5 :: v6 :: v7 :: v8 :: v9 :: some (vi a) :: lo) st Q) : XJ sc d k h pc (v0 :: v1 :: v2 :: v3 :: v4 :: v5 :: v6 :: v7 :: v8 :: v9 :: old :: lo) (vi a :: st) Q := xg_istore hd hp hi hq kk
theorem xj_iinc10 {sc : Option (Nat × (Int → Int))} {d : Nat} {k : MI} {h : Hp} {pc pc2 : Nat} {lo : Lo} {v0 v1 v2 v3 v4 v5 v6 v7 v8 v9 : Option Value} {st : List Value} {Q : Int → Hp → Prop} {a n : Int} (hd : decode k.2.1 pc = .ok (.iinc 10 n, 3)) (hp : pc + 3 = pc2) (hi : 10 < k.2.2.1) (hq : noL (v0 :: v1 :: v2 :: v3 :: v4 :: v5 :: v6 :: v7 :: v8 :: v9 :: some (vi a) :: lo) 10 = true) (kk : XJ sc d k h pc2 (v0 :: v1 :: v2 :: v3 :: v4 :: v5 :: v6 :: v7 :: v8 :: v9 :: some (vi (a + n)) :: lo) st Q) : XJ sc d k h pc (v0 :: v1 :: v2 :: v3 :: v4 :: v5 :: v6 :: v7 :: v8 :: v9 :: some (vi a) :: lo) st Q := xg_iinc hd hp hi hq rfl kk
theorem xj_istore11 {sc : Option (Nat × (Int → Int))} {d : Nat} {k : MI} {h : Hp} {pc pc2 : Nat} {lo : Lo} {v0 v1 v2 v3 v4 v5 v6 v7 v8 v9 v10 : Option Value} {old : Option Value} {st : List Value} {Q : Int → Hp → Prop} {a : Int} (hd : decode k.2.1 pc = .ok (.istore 11, 2)) (hp : pc + 2 = pc2) (hi : 11 < k.2.2.1) (hq : noL (v0 :: v1 :: v2 :: v3 :: v4 :: v5 :: v6 :: v7 :: v8 :: v9 :: v10 :: old :: lo) 11 = true) (kk : XJ sc d k h pc2 (v0 :: v1 :: v2 :: v3 :: v4 :: v5 :: v6 :: v7 :: v8 :: v9 :: v10 :: some (vi a) :: lo) st Q) : XJ sc d k h pc (v0 :: v1 :: v2 :: v3 :: v4 :: v5 :: v6 :: v7 :: v8 :: v9 :: v10 :: old :: lo) (vi a :: st) Q := xg_istore hd hp hi hq kk
theorem xj_iinc11 {sc : Option (Nat × (Int → Int))} {d : Nat} {k : MI} {h : Hp} {pc pc2 : Nat} {lo : Lo} {v0 v1 v2 v3 v4 v5 v6 v7 v8 v9 v10 : Option Value} {st : List Value} {Q : Int → Hp → Prop} {a n : Int} (hd : decode k.2.1 pc = .ok (.iinc 11 n, 3)) (hp : pc + 3 = pc2) (hi : 11 < k.2.2.1) (hq : noL (v0 :: v1 :: v2 :: v3 :: v4 :: v5 :: v6 :: v7 :: v8 :: v9 :: v10 :: some (vi a) :: lo) 11 = true) (kk : XJ sc d k h pc2 (v0 :: v1 :: v2 :: v3 :: v4 :: v5 :: v6 :: v7 :: v8 :: v9 :: v10 :: some (vi (a + n)) :: lo) st Q) : XJ sc d k h pc (v0 :: v1 :: v2 :: v3 :: v4 :: v5 :: v6 :: v7 :: v8 :: v9 :: v10 :: some (vi a) :: lo) st Q := xg_iinc hd hp hi hq rfl kk
theorem xj_lstore0 {sc : Option (Nat × (Int → Int))} {d : Nat} {k : MI} {h : Hp} {pc pc2 : Nat} {lo : Lo} {old old2 : Option Value} {st : List Value} {Q : Int → Hp → Prop} {a : Int} {j : _root_.Fin 4} (hd : decode k.2.1 pc = .ok (.lstore_n j, 1)) (hp : pc + 1 = pc2) (hj : (j : Nat) = 0) (hi : 0 + 1 < k.2.2.1) (hq : noL (old :: old2 :: lo) 0 = true) (kk : XJ sc d k h pc2 (some (vl a) :: none :: lo) st Q) : XJ sc d k h pc (old :: old2 :: lo) (vl a :: st) Q := xg_lstore_n hd hp hj hi hq kk
theorem xj_lstore1 {sc : Option (Nat × (Int → Int))} {d : Nat} {k : MI} {h : Hp} {pc pc2 : Nat} {lo : Lo} {v0 : Option Value} {old old2 : Option Value} {st : List Value} {Q : Int → Hp → Prop} {a : Int} {j : _root_.Fin 4} (hd : decode k.2.1 pc = .ok (.lstore_n j, 1)) (hp : pc + 1 = pc2) (hj : (j : Nat) = 1) (hi : 1 + 1 < k.2.2.1) (hq : noL (v0 :: old :: old2 :: lo) 1 = true) (kk : XJ sc d k h pc2 (v0 :: some (vl a) :: none :: lo) st Q) : XJ sc d k h pc (v0 :: old :: old2 :: lo) (vl a :: st) Q := xg_lstore_n hd hp hj hi hq kk
theorem xj_lstore2 {sc : Option (Nat × (Int → Int))} {d : Nat} {k : MI} {h : Hp} {pc pc2 : Nat} {lo : Lo} {v0 v1 : Option Value} {old old2 : Option Value} {st : List Value} {Q : Int → Hp → Prop} {a : Int} {j : _root_.Fin 4} (hd : decode k.2.1 pc = .ok (.lstore_n j, 1)) (hp : pc + 1 = pc2) (hj : (j : Nat) = 2) (hi : 2 + 1 < k.2.2.1) (hq : noL (v0 :: v1 :: old :: old2 :: lo) 2 = true) (kk : XJ sc d k h pc2 (v0 :: v1 :: some (vl a) :: none :: lo) st Q) : XJ sc d k h pc (v0 :: v1 :: old :: old2 :: lo) (vl a :: st) Q := xg_lstore_n hd hp hj hi hq kk
theorem xj_lstore3 {sc : Option (Nat × (Int → Int))} {d : Nat} {k : MI} {h : Hp} {pc pc2 : Nat} {lo : Lo} {v0 v1 v2 : Option Value} {old old2 : Option Value} {st : List Value} {Q : Int → Hp → Prop} {a : Int} {j : _root_.Fin 4} (hd : decode k.2.1 pc = .ok (.lstore_n j, 1)) (hp : pc + 1 = pc2) (hj : (j : Nat) = 3) (hi : 3 + 1 < k.2.2.1) (hq : noL (v0 :: v1 :: v2 :: old :: old2 :: lo) 3 = true) (kk : XJ sc d k h pc2 (v0 :: v1 :: v2 :: some (vl a) :: none :: lo) st Q) : XJ sc d k h pc (v0 :: v1 :: v2 :: old :: old2 :: lo) (vl a :: st) Q := xg_lstore_n hd hp hj hi hq kk
theorem xj_lstore4 {sc : Option (Nat × (Int → Int))} {d : Nat} {k : MI} {h : Hp} {pc pc2 : Nat} {lo : Lo} {v0 v1 v2 v3 : Option Value} {old old2 : Option Value} {st : List Value} {Q : Int → Hp → Prop} {a : Int} (hd : decode k.2.1 pc = .ok (.lstore 4, 2)) (hp : pc + 2 = pc2) (hi : 4 + 1 < k.2.2.1) (hq : noL (v0 :: v1 :: v2 :: v3 :: old :: old2 :: lo) 4 = true) (kk : XJ sc d k h pc2 (v0 :: v1 :: v2 :: v3 :: some (vl a) :: none :: lo) st Q) : XJ sc d k h pc (v0 :: v1 :: v2 :: v3 :: old :: old2 :: lo) (vl a :: st) Q := xg_lstore hd hp hi hq kk
theorem xj_lstore5 {sc : Option (Nat × (Int → Int))} {d : Nat} {k : MI} {h : Hp} {pc pc2 : Nat} {lo : Lo} {v0 v1 v2 v3 v4 : Option Value} {old old2 : Option Value} {st : List Value} {Q : Int → Hp → Prop} {a : Int} (hd : decode k.2.1 pc = .ok (.lstore 5, 2)) (hp : pc + 2 = pc2) (hi : 5 + 1 < k.2.2.1) (hq : noL (v0 :: v1 :: v2 :: v3 :: v4 :: old :: old2 :: lo) 5 = true) (kk : XJ sc d k h pc2 (v0 :: v1 :: v2 :: v3 :: v4 :: some (vl a) :: none :: lo) st Q) : XJ sc d k h pc (v0 :: v1 :: v2 :: v3 :: v4 :: old :: old2 :: lo) (vl a :: st) Q := xg_lstore hd hp hi hq kk
theorem xj_lstore6 {sc : Option (Nat × (Int → Int))} {d : Nat} {k : MI} {h : Hp} {pc pc2 : Nat} {lo : Lo} {v0 v1 v2 v3 v4 v5 : Option Value} {old old2 : Option Value} {st : List Value} {Q : Int → Hp → Prop} {a : Int} (hd : decode k.2.1 pc = .ok (.lstore 6, 2)) (hp : pc + 2 = pc2) (hi : 6 + 1 < k.2.2.1) (hq : noL (v0 :: v1 :: v2 :: v3 :: v4 :: v5 :: old :: old2 :: lo) 6 = true) (kk : XJ sc d k h pc2 (v0 :: v1 :: v2 :: v3 :: v4 :: v5 :: some (vl a) :: none :: lo) st Q) : XJ sc d k h pc (v0 :: v1 :: v2 :: v3 :: v4 :: v5 :: old :: old2 :: lo) (vl a :: st) Q := xg_lstore hd hp hi hq kk
theorem xj_lstore7 {sc : Option (Nat × (Int → Int))} {d : Nat} {k : MI} {h : Hp} {pc pc2 : Nat} {lo : Lo} {v0 v1 v2 v3 v4 v5 v6 : Option Value} {old old2 : Option Value} {st : List Value} {Q : Int → Hp → Prop} {a : Int} (hd : decode k.2.1 pc = .ok (.lstore 7, 2)) (hp : pc + 2 = pc2) (hi : 7 + 1 < k.2.2.1) (hq : noL (v0 :: v1 :: v2 :: v3 :: v4 :: v5 :: v6 :: old :: old2 :: lo) 7 = true) (kk : XJ sc d k h pc2 (v0 :: v1 :: v2 :: v3 :: v4 :: v5 :: v6 :: some (vl a) :: none :: lo) st Q) : XJ sc d k h pc (v0 :: v1 :: v2 :: v3 :: v4 :: v5 :: v6 :: old :: old2 :: lo) (vl a :: st) Q := xg_lstore hd hp hi hq kk
theorem xj_lstore8 {sc : Option (Nat × (Int → Int))} {d : Nat} {k : MI} {h : Hp} {pc pc2 : Nat} {lo : Lo} {v0 v1 v2 v3 v4 v5 v6 v7 : Option Value} {old old2 : Option Value} {st : List Value} {Q : Int → Hp → Prop} {a : Int} (hd : decode k.2.1 pc = .ok (.lstore 8, 2)) (hp : pc + 2 = pc2) (hi : 8 + 1 < k.2.2.1) (hq : noL (v0 :: v1 :: v2 :: v3 :: v4 :: v5 :: v6 :: v7 :: old :: old2 :: lo) 8 = true) (kk : XJ sc d k h pc2 (v0 :: v1 :: v2 :: v3 :: v4 :: v5 :: v6 :: v7 :: some (vl a) :: none :: lo) st Q) : XJ sc d k h pc (v0 :: v1 :: v2 :: v3 :: v4 :: v5 :: v6 :: v7 :: old :: old2 :: lo) (vl a :: st) Q := xg_lstore hd hp hi hq kk
theorem xj_iadd {sc : Option (Nat × (Int → Int))} {d : Nat} {k : MI} {h : Hp} {pc pc2 : Nat} {lo : Lo} {st : List Value} {Q : Int → Hp → Prop} {a b : Int} (hd : decode k.2.1 pc = .ok (.iadd, 1)) (hp : pc + 1 = pc2) (kk : XJ sc d k h pc2 lo (vi (a + b) :: st) Q) : XJ sc d k h pc lo (vi b :: vi a :: st) Q := by
  subst hp
  intro p l e R s m args below meth c Z G A cells slots C w z r f H locs ls hP hS hl
  have K := kk p l e R s m args below meth c Z G A cells slots C w z r f H locs ls hP hS hl
  refine lv_iadd C.1 C.2.1 hd ?_
  rw [← Int32.ofInt_add]
  exact K
theorem xj_isub {sc : Option (Nat × (Int → Int))} {d : Nat} {k : MI} {h : Hp} {pc pc2 : Nat} {lo : Lo} {st : List Value} {Q : Int → Hp → Prop} {a b : Int} (hd : decode k.2.1 pc = .ok (.isub, 1)) (hp : pc + 1 = pc2) (kk : XJ sc d k h pc2 lo (vi (a - b) :: st) Q) : XJ sc d k h pc lo (vi b :: vi a :: st) Q := by
  subst hp
  intro p l e R s m args below meth c Z G A cells slots C w z r f H locs ls hP hS hl
  have K := kk p l e R s m args below meth c Z G A cells slots C w z r f H locs ls hP hS hl
  refine lv_isub C.1 C.2.1 hd ?_
  rw [← Int32.ofInt_sub]
  exact K
theorem xj_imul {sc : Option (Nat × (Int → Int))} {d : Nat} {k : MI} {h : Hp} {pc pc2 : Nat} {lo : Lo} {st : List Value} {Q : Int → Hp → Prop} {a b : Int} (hd : decode k.2.1 pc = .ok (.imul, 1)) (hp : pc + 1 = pc2) (kk : XJ sc d k h pc2 lo (vi (a * b) :: st) Q) : XJ sc d k h pc lo (vi b :: vi a :: st) Q := by
  subst hp
  intro p l e R s m args below meth c Z G A cells slots C w z r f H locs ls hP hS hl
  have K := kk p l e R s m args below meth c Z G A cells slots C w z r f H locs ls hP hS hl
  refine lv_imul C.1 C.2.1 hd ?_
  rw [← Int32.ofInt_mul]
  exact K
theorem xj_ladd {sc : Option (Nat × (Int → Int))} {d : Nat} {k : MI} {h : Hp} {pc pc2 : Nat} {lo : Lo} {st : List Value} {Q : Int → Hp → Prop} {a b : Int} (hd : decode k.2.1 pc = .ok (.ladd, 1)) (hp : pc + 1 = pc2) (kk : XJ sc d k h pc2 lo (vl (a + b) :: st) Q) : XJ sc d k h pc lo (vl b :: vl a :: st) Q := by
  subst hp
  intro p l e R s m args below meth c Z G A cells slots C w z r f H locs ls hP hS hl
  have K := kk p l e R s m args below meth c Z G A cells slots C w z r f H locs ls hP hS hl
  refine lv_ladd C.1 C.2.1 hd ?_
  rw [← Int64.ofInt_add]
  exact K
theorem xj_lmul {sc : Option (Nat × (Int → Int))} {d : Nat} {k : MI} {h : Hp} {pc pc2 : Nat} {lo : Lo} {st : List Value} {Q : Int → Hp → Prop} {a b : Int} (hd : decode k.2.1 pc = .ok (.lmul, 1)) (hp : pc + 1 = pc2) (kk : XJ sc d k h pc2 lo (vl (a * b) :: st) Q) : XJ sc d k h pc lo (vl b :: vl a :: st) Q := by
  subst hp
  intro p l e R s m args below meth c Z G A cells slots C w z r f H locs ls hP hS hl
  have K := kk p l e R s m args below meth c Z G A cells slots C w z r f H locs ls hP hS hl
  refine lv_lmul C.1 C.2.1 hd ?_
  rw [← Int64.ofInt_mul]
  exact K
theorem xj_iand {sc : Option (Nat × (Int → Int))} {d : Nat} {k : MI} {h : Hp} {pc pc2 : Nat} {lo : Lo} {st : List Value} {Q : Int → Hp → Prop} {a b : Int} (hd : decode k.2.1 pc = .ok (.iand, 1)) (hp : pc + 1 = pc2) (kk : XJ sc d k h pc2 lo (vi (band a b) :: st) Q) : XJ sc d k h pc lo (vi b :: vi a :: st) Q := by
  subst hp
  intro p l e R s m args below meth c Z G A cells slots C w z r f H locs ls hP hS hl
  have K := kk p l e R s m args below meth c Z G A cells slots C w z r f H locs ls hP hS hl
  refine lv_iand C.1 C.2.1 hd ?_
  have e := Int32.ofInt_toInt (Int32.ofInt a &&& Int32.ofInt b)
  rw [← e]
  exact K
theorem xj_ior {sc : Option (Nat × (Int → Int))} {d : Nat} {k : MI} {h : Hp} {pc pc2 : Nat} {lo : Lo} {st : List Value} {Q : Int → Hp → Prop} {a b : Int} (hd : decode k.2.1 pc = .ok (.ior, 1)) (hp : pc + 1 = pc2) (kk : XJ sc d k h pc2 lo (vi (bor a b) :: st) Q) : XJ sc d k h pc lo (vi b :: vi a :: st) Q := by
  subst hp
  intro p l e R s m args below meth c Z G A cells slots C w z r f H locs ls hP hS hl
  have K := kk p l e R s m args below meth c Z G A cells slots C w z r f H locs ls hP hS hl
  refine lv_ior C.1 C.2.1 hd ?_
  have e := Int32.ofInt_toInt (Int32.ofInt a ||| Int32.ofInt b)
  rw [← e]
  exact K
theorem xj_ixor {sc : Option (Nat × (Int → Int))} {d : Nat} {k : MI} {h : Hp} {pc pc2 : Nat} {lo : Lo} {st : List Value} {Q : Int → Hp → Prop} {a b : Int} (hd : decode k.2.1 pc = .ok (.ixor, 1)) (hp : pc + 1 = pc2) (kk : XJ sc d k h pc2 lo (vi (bxor a b) :: st) Q) : XJ sc d k h pc lo (vi b :: vi a :: st) Q := by
  subst hp
  intro p l e R s m args below meth c Z G A cells slots C w z r f H locs ls hP hS hl
  have K := kk p l e R s m args below meth c Z G A cells slots C w z r f H locs ls hP hS hl
  refine lv_ixor C.1 C.2.1 hd ?_
  have e := Int32.ofInt_toInt (Int32.ofInt a ^^^ Int32.ofInt b)
  rw [← e]
  exact K
theorem xj_ishl {sc : Option (Nat × (Int → Int))} {d : Nat} {k : MI} {h : Hp} {pc pc2 : Nat} {lo : Lo} {st : List Value} {Q : Int → Hp → Prop} {a b : Int} (hd : decode k.2.1 pc = .ok (.ishl, 1)) (hp : pc + 1 = pc2) (kk : XJ sc d k h pc2 lo (vi (bshl a b) :: st) Q) : XJ sc d k h pc lo (vi b :: vi a :: st) Q := by
  subst hp
  intro p l e R s m args below meth c Z G A cells slots C w z r f H locs ls hP hS hl
  have K := kk p l e R s m args below meth c Z G A cells slots C w z r f H locs ls hP hS hl
  refine lv_ishl C.1 C.2.1 hd ?_
  have e := Int32.ofInt_toInt (Int32.ofInt a <<< (Int32.ofInt b &&& 31))
  rw [← e]
  exact K
theorem xj_ishr {sc : Option (Nat × (Int → Int))} {d : Nat} {k : MI} {h : Hp} {pc pc2 : Nat} {lo : Lo} {st : List Value} {Q : Int → Hp → Prop} {a b : Int} (hd : decode k.2.1 pc = .ok (.ishr, 1)) (hp : pc + 1 = pc2) (kk : XJ sc d k h pc2 lo (vi (bshr a b) :: st) Q) : XJ sc d k h pc lo (vi b :: vi a :: st) Q := by
  subst hp
  intro p l e R s m args below meth c Z G A cells slots C w z r f H locs ls hP hS hl
  have K := kk p l e R s m args below meth c Z G A cells slots C w z r f H locs ls hP hS hl
  refine lv_ishr C.1 C.2.1 hd ?_
  have e := Int32.ofInt_toInt (Int32.ofInt a >>> (Int32.ofInt b &&& 31))
  rw [← e]
  exact K
theorem xj_iushr {sc : Option (Nat × (Int → Int))} {d : Nat} {k : MI} {h : Hp} {pc pc2 : Nat} {lo : Lo} {st : List Value} {Q : Int → Hp → Prop} {a b : Int} (hd : decode k.2.1 pc = .ok (.iushr, 1)) (hp : pc + 1 = pc2) (kk : XJ sc d k h pc2 lo (vi (bushr a b) :: st) Q) : XJ sc d k h pc lo (vi b :: vi a :: st) Q := by
  subst hp
  intro p l e R s m args below meth c Z G A cells slots C w z r f H locs ls hP hS hl
  have K := kk p l e R s m args below meth c Z G A cells slots C w z r f H locs ls hP hS hl
  have e := Int32.ofInt_toInt (((Int32.ofInt a).toUInt32 >>> ((Int32.ofInt b).toUInt32 &&& Int32.toUInt32 31)).toInt32)
  exact lv_iushr C.1 C.2.1 hd e.symm K
theorem xj_land {sc : Option (Nat × (Int → Int))} {d : Nat} {k : MI} {h : Hp} {pc pc2 : Nat} {lo : Lo} {st : List Value} {Q : Int → Hp → Prop} {a b : Int} (hd : decode k.2.1 pc = .ok (.land, 1)) (hp : pc + 1 = pc2) (kk : XJ sc d k h pc2 lo (vl (bandl a b) :: st) Q) : XJ sc d k h pc lo (vl b :: vl a :: st) Q := by
  subst hp
  intro p l e R s m args below meth c Z G A cells slots C w z r f H locs ls hP hS hl
  have K := kk p l e R s m args below meth c Z G A cells slots C w z r f H locs ls hP hS hl
  refine lv_land C.1 C.2.1 hd ?_
  have e := Int64.ofInt_toInt (Int64.ofInt a &&& Int64.ofInt b)
  rw [← e]
  exact K
theorem dv_ne {b : Int} (hb : 0 < b ∧ b ≤ 2147483647) : ¬ Int32.ofInt b = 0 := by
  rw [i0, rg_eq (by omega) (by omega)]; omega
theorem dv_i {a b : Int} (ha : 0 ≤ a ∧ a ≤ 2147483647) (hb : 0 < b ∧ b ≤ 2147483647) : Int32.ofInt a / Int32.ofInt b = Int32.ofInt (a / b) := by
  have h1 : (Int32.ofInt b) ≠ -1 := by
    rw [show (-1 : Int32) = Int32.ofInt (-1) from rfl, Ne, rg_eq (by omega) (by omega)]; omega
  apply Int32.toInt_inj.mp
  have h2 : 0 ≤ a / b := Int.ediv_nonneg ha.1 (by omega)
  have h3 : a / b ≤ a := Int.ediv_le_self b ha.1
  rw [Int32.toInt_div_of_ne_right _ _ h1, rg_toInt (by omega), rg_toInt (by omega), rg_toInt (by omega), Int.tdiv_eq_ediv_of_nonneg ha.1]
theorem dv_m {a b : Int} (ha : 0 ≤ a ∧ a ≤ 2147483647) (hb : 0 < b ∧ b ≤ 2147483647) : Int32.ofInt a - Int32.ofInt a / Int32.ofInt b * Int32.ofInt b = Int32.ofInt (a % b) := by
  rw [dv_i ha hb, ← Int32.ofInt_mul, ← Int32.ofInt_sub, Int.emod_def, Int.mul_comm b]
theorem rgl_toInt {a : Int} (h : -9223372036854775808 ≤ a ∧ a ≤ 9223372036854775807) : (Int64.ofInt a).toInt = a := Int64.toInt_ofInt_of_le (by omega) (by omega)
theorem rgl_eq {a b : Int} (ha : -9223372036854775808 ≤ a ∧ a ≤ 9223372036854775807) (hb : -9223372036854775808 ≤ b ∧ b ≤ 9223372036854775807) : Int64.ofInt a = Int64.ofInt b ↔ a = b := by
  constructor
  · intro q
    have := congrArg Int64.toInt q
    rwa [rgl_toInt ha, rgl_toInt hb] at this
  · intro q; rw [q]
theorem dvl_ne {b : Int} (hb : 0 < b ∧ b ≤ 9223372036854775807) : ¬ Int64.ofInt b = 0 := by
  rw [show (0 : Int64) = Int64.ofInt 0 from rfl, rgl_eq (by omega) (by omega)]; omega
theorem dvl_i {a b : Int} (ha : 0 ≤ a ∧ a ≤ 9223372036854775807) (hb : 0 < b ∧ b ≤ 9223372036854775807) : Int64.ofInt a / Int64.ofInt b = Int64.ofInt (a / b) := by
  have h1 : (Int64.ofInt b) ≠ -1 := by
    rw [show (-1 : Int64) = Int64.ofInt (-1) from rfl, Ne, rgl_eq (by omega) (by omega)]; omega
  apply Int64.toInt_inj.mp
  have h2 : 0 ≤ a / b := Int.ediv_nonneg ha.1 (by omega)
  have h3 : a / b ≤ a := Int.ediv_le_self b ha.1
  rw [Int64.toInt_div_of_ne_right _ _ h1, rgl_toInt (by omega), rgl_toInt (by omega), rgl_toInt (by omega), Int.tdiv_eq_ediv_of_nonneg ha.1]
theorem dvl_m {a b : Int} (ha : 0 ≤ a ∧ a ≤ 9223372036854775807) (hb : 0 < b ∧ b ≤ 9223372036854775807) : Int64.ofInt a - Int64.ofInt a / Int64.ofInt b * Int64.ofInt b = Int64.ofInt (a % b) := by
  rw [dvl_i ha hb, ← Int64.ofInt_mul, ← Int64.ofInt_sub, Int.emod_def, Int.mul_comm b]
theorem xj_idiv {sc : Option (Nat × (Int → Int))} {d : Nat} {k : MI} {h : Hp} {pc pc2 : Nat} {lo : Lo} {st : List Value} {Q : Int → Hp → Prop} {a b : Int} (hd : decode k.2.1 pc = .ok (.idiv, 1)) (hp : pc + 1 = pc2) (ha : 0 ≤ a ∧ a ≤ 2147483647) (hb : 0 < b ∧ b ≤ 2147483647) (kk : XJ sc d k h pc2 lo (vi (a / b) :: st) Q) : XJ sc d k h pc lo (vi b :: vi a :: st) Q := by
  subst hp
  intro p l e R s m args below meth c Z G A cells slots C w z r f H locs ls hP hS hl
  have K := kk p l e R s m args below meth c Z G A cells slots C w z r f H locs ls hP hS hl
  refine lv_idiv C.1 C.2.1 hd (dv_ne hb) ?_
  rw [dv_i ha hb]
  exact K
theorem xj_irem {sc : Option (Nat × (Int → Int))} {d : Nat} {k : MI} {h : Hp} {pc pc2 : Nat} {lo : Lo} {st : List Value} {Q : Int → Hp → Prop} {a b : Int} (hd : decode k.2.1 pc = .ok (.irem, 1)) (hp : pc + 1 = pc2) (ha : 0 ≤ a ∧ a ≤ 2147483647) (hb : 0 < b ∧ b ≤ 2147483647) (kk : XJ sc d k h pc2 lo (vi (a % b) :: st) Q) : XJ sc d k h pc lo (vi b :: vi a :: st) Q := by
  subst hp
  intro p l e R s m args below meth c Z G A cells slots C w z r f H locs ls hP hS hl
  have K := kk p l e R s m args below meth c Z G A cells slots C w z r f H locs ls hP hS hl
  refine lv_irem C.1 C.2.1 hd (dv_ne hb) ?_
  rw [dv_m ha hb]
  exact K
theorem xj_ldiv {sc : Option (Nat × (Int → Int))} {d : Nat} {k : MI} {h : Hp} {pc pc2 : Nat} {lo : Lo} {st : List Value} {Q : Int → Hp → Prop} {a b : Int} (hd : decode k.2.1 pc = .ok (.ldiv, 1)) (hp : pc + 1 = pc2) (ha : 0 ≤ a ∧ a ≤ 9223372036854775807) (hb : 0 < b ∧ b ≤ 9223372036854775807) (kk : XJ sc d k h pc2 lo (vl (a / b) :: st) Q) : XJ sc d k h pc lo (vl b :: vl a :: st) Q := by
  subst hp
  intro p l e R s m args below meth c Z G A cells slots C w z r f H locs ls hP hS hl
  have K := kk p l e R s m args below meth c Z G A cells slots C w z r f H locs ls hP hS hl
  refine lv_ldiv C.1 C.2.1 hd (dvl_ne hb) ?_
  rw [dvl_i ha hb]
  exact K
theorem xj_lrem {sc : Option (Nat × (Int → Int))} {d : Nat} {k : MI} {h : Hp} {pc pc2 : Nat} {lo : Lo} {st : List Value} {Q : Int → Hp → Prop} {a b : Int} (hd : decode k.2.1 pc = .ok (.lrem, 1)) (hp : pc + 1 = pc2) (ha : 0 ≤ a ∧ a ≤ 9223372036854775807) (hb : 0 < b ∧ b ≤ 9223372036854775807) (kk : XJ sc d k h pc2 lo (vl (a % b) :: st) Q) : XJ sc d k h pc lo (vl b :: vl a :: st) Q := by
  subst hp
  intro p l e R s m args below meth c Z G A cells slots C w z r f H locs ls hP hS hl
  have K := kk p l e R s m args below meth c Z G A cells slots C w z r f H locs ls hP hS hl
  refine lv_lrem C.1 C.2.1 hd (dvl_ne hb) ?_
  rw [dvl_m ha hb]
  exact K
theorem xj_i2l {sc : Option (Nat × (Int → Int))} {d : Nat} {k : MI} {h : Hp} {pc pc2 : Nat} {lo : Lo} {st : List Value} {Q : Int → Hp → Prop} {a : Int} (hd : decode k.2.1 pc = .ok (.i2l, 1)) (hp : pc + 1 = pc2) (ha : -2147483648 ≤ a ∧ a ≤ 2147483647) (kk : XJ sc d k h pc2 lo (vl a :: st) Q) : XJ sc d k h pc lo (vi a :: st) Q := by
  subst hp
  intro p l e R s m args below meth c Z G A cells slots C w z r f H locs ls hP hS hl
  exact lv_i2l C.1 C.2.1 hd (Int32.toInt64_ofInt ha.1 ha.2) (kk p l e R s m args below meth c Z G A cells slots C w z r f H locs ls hP hS hl)
theorem xj_l2i {sc : Option (Nat × (Int → Int))} {d : Nat} {k : MI} {h : Hp} {pc pc2 : Nat} {lo : Lo} {st : List Value} {Q : Int → Hp → Prop} {a : Int} (hd : decode k.2.1 pc = .ok (.l2i, 1)) (hp : pc + 1 = pc2) (kk : XJ sc d k h pc2 lo (vi a :: st) Q) : XJ sc d k h pc lo (vl a :: st) Q := by
  subst hp
  intro p l e R s m args below meth c Z G A cells slots C w z r f H locs ls hP hS hl
  exact lv_l2i C.1 C.2.1 hd Int64.toInt32_ofInt (kk p l e R s m args below meth c Z G A cells slots C w z r f H locs ls hP hS hl)
theorem i2b_ok {a : Int} (ha : -128 ≤ a ∧ a ≤ 127) : (Int32.ofInt a).toInt8.toInt32 = Int32.ofInt a := by
  have e : Int32.ofInt a = (Int8.ofInt a).toInt32 := (Int8.toInt32_ofInt ha.1 ha.2).symm
  rw [e, Int8.toInt8_toInt32]
theorem xj_i2b {sc : Option (Nat × (Int → Int))} {d : Nat} {k : MI} {h : Hp} {pc pc2 : Nat} {lo : Lo} {st : List Value} {Q : Int → Hp → Prop} {a : Int} (hd : decode k.2.1 pc = .ok (.i2b, 1)) (hp : pc + 1 = pc2) (ha : -128 ≤ a ∧ a ≤ 127) (kk : XJ sc d k h pc2 lo (vi a :: st) Q) : XJ sc d k h pc lo (vi a :: st) Q := by
  subst hp
  intro p l e R s m args below meth c Z G A cells slots C w z r f H locs ls hP hS hl
  exact lv_i2b C.1 C.2.1 hd (i2b_ok ha) (kk p l e R s m args below meth c Z G A cells slots C w z r f H locs ls hP hS hl)
theorem xj_ineg {sc : Option (Nat × (Int → Int))} {d : Nat} {k : MI} {h : Hp} {pc pc2 : Nat} {lo : Lo} {st : List Value} {Q : Int → Hp → Prop} {a : Int} (hd : decode k.2.1 pc = .ok (.ineg, 1)) (hp : pc + 1 = pc2) (kk : XJ sc d k h pc2 lo (vi (-a) :: st) Q) : XJ sc d k h pc lo (vi a :: st) Q := by
  subst hp
  intro p l e R s m args below meth c Z G A cells slots C w z r f H locs ls hP hS hl
  exact lv_ineg C.1 C.2.1 hd (by rw [← Int32.ofInt_neg]; exact kk p l e R s m args below meth c Z G A cells slots C w z r f H locs ls hP hS hl)
theorem xj_dup {sc : Option (Nat × (Int → Int))} {d : Nat} {k : MI} {h : Hp} {pc pc2 : Nat} {lo : Lo} {st : List Value} {Q : Int → Hp → Prop} {v : Value} (hd : decode k.2.1 pc = .ok (.dup, 1)) (hp : pc + 1 = pc2) (hv : v.category = 1) (kk : XJ sc d k h pc2 lo (v :: v :: st) Q) : XJ sc d k h pc lo (v :: st) Q := by
  subst hp
  intro p l e R s m args below meth c Z G A cells slots C w z r f H locs ls hP hS hl
  exact lv_dup C.1 C.2.1 hd ((cv_cat _ _).trans hv) (kk p l e R s m args below meth c Z G A cells slots C w z r f H locs ls hP hS hl)
theorem xj_pop {sc : Option (Nat × (Int → Int))} {d : Nat} {k : MI} {h : Hp} {pc pc2 : Nat} {lo : Lo} {st : List Value} {Q : Int → Hp → Prop} {v : Value} (hd : decode k.2.1 pc = .ok (.pop, 1)) (hp : pc + 1 = pc2) (hv : v.category = 1) (kk : XJ sc d k h pc2 lo (st) Q) : XJ sc d k h pc lo (v :: st) Q := by
  subst hp
  intro p l e R s m args below meth c Z G A cells slots C w z r f H locs ls hP hS hl
  exact lv_pop C.1 C.2.1 hd ((cv_cat _ _).trans hv) (kk p l e R s m args below meth c Z G A cells slots C w z r f H locs ls hP hS hl)
theorem xj_dup2 {sc : Option (Nat × (Int → Int))} {d : Nat} {k : MI} {h : Hp} {pc pc2 : Nat} {lo : Lo} {st : List Value} {Q : Int → Hp → Prop} {v v2 : Value} (hd : decode k.2.1 pc = .ok (.dup2, 1)) (hp : pc + 1 = pc2) (hv : v.category = 1) (hv2 : v2.category = 1) (kk : XJ sc d k h pc2 lo (v :: v2 :: v :: v2 :: st) Q) : XJ sc d k h pc lo (v :: v2 :: st) Q := by
  subst hp
  intro p l e R s m args below meth c Z G A cells slots C w z r f H locs ls hP hS hl
  exact lv_dup2_11 C.1 C.2.1 hd ((cv_cat _ _).trans hv) ((cv_cat _ _).trans hv2) (kk p l e R s m args below meth c Z G A cells slots C w z r f H locs ls hP hS hl)
theorem xj_lcmp_eq {sc : Option (Nat × (Int → Int))} {d : Nat} {k : MI} {h : Hp} {pc pc2 : Nat} {lo : Lo} {st : List Value} {Q : Int → Hp → Prop} {a b : Int} (hd : decode k.2.1 pc = .ok (.lcmp, 1)) (hp : pc + 1 = pc2) (he : a = b) (kk : XJ sc d k h pc2 lo (vi 0 :: st) Q) : XJ sc d k h pc lo (vl b :: vl a :: st) Q := by
  subst hp
  subst he
  intro p l e R s m args below meth c Z G A cells slots C w z r f H locs ls hP hS hl
  have K := kk p l e R s m args below meth c Z G A cells slots C w z r f H locs ls hP hS hl
  refine W.lcmp C.1 C.2.1 hd ?_
  rw [show lg_cmp (Int64.ofInt a) (Int64.ofInt a) = 0 from by simp [lg_cmp]]
  exact K
theorem xj_cmp_eq {sc : Option (Nat × (Int → Int))} {d : Nat} {k : MI} {h : Hp} {pc pc2 : Nat} {lo : Lo} {st : List Value} {Q : Int → Hp → Prop} {a b off : Int} {tgt : Nat} (hd : decode k.2.1 pc = .ok (.if_icmp .eq off, 3)) (ht : (pc : Int) + off = (tgt : Int)) (hp : pc + 3 = pc2) (ha : -2147483648 ≤ a ∧ a ≤ 2147483647) (hb : -2147483648 ≤ b ∧ b ≤ 2147483647) (kk1 : a = b → XJ sc d k h tgt lo st Q) (kk2 : ¬ (a = b) → XJ sc d k h pc2 lo st Q) : XJ sc d k h pc lo (vi b :: vi a :: st) Q := by
  subst hp
  intro p l e R s m args below meth c Z G A cells slots C w z r f H locs ls hP hS hl
  exact lv_icmp_eq C.1 C.2.1 hd ht (fun q => kk1 ((rg_eq ha hb).mp q) p l e R s m args below meth c Z G A cells slots C w z r f H locs ls hP hS hl) (fun q => kk2 (fun q2 => q ((rg_eq ha hb).mpr q2)) p l e R s m args below meth c Z G A cells slots C w z r f H locs ls hP hS hl)
theorem xj_cmp_ne {sc : Option (Nat × (Int → Int))} {d : Nat} {k : MI} {h : Hp} {pc pc2 : Nat} {lo : Lo} {st : List Value} {Q : Int → Hp → Prop} {a b off : Int} {tgt : Nat} (hd : decode k.2.1 pc = .ok (.if_icmp .ne off, 3)) (ht : (pc : Int) + off = (tgt : Int)) (hp : pc + 3 = pc2) (ha : -2147483648 ≤ a ∧ a ≤ 2147483647) (hb : -2147483648 ≤ b ∧ b ≤ 2147483647) (kk1 : ¬ a = b → XJ sc d k h tgt lo st Q) (kk2 : a = b → XJ sc d k h pc2 lo st Q) : XJ sc d k h pc lo (vi b :: vi a :: st) Q := by
  subst hp
  intro p l e R s m args below meth c Z G A cells slots C w z r f H locs ls hP hS hl
  exact lv_icmp_ne C.1 C.2.1 hd ht (fun q => kk1 (fun q2 => q (by rw [q2])) p l e R s m args below meth c Z G A cells slots C w z r f H locs ls hP hS hl) (fun q => kk2 ((rg_eq ha hb).mp q) p l e R s m args below meth c Z G A cells slots C w z r f H locs ls hP hS hl)
theorem xj_cmp_lt {sc : Option (Nat × (Int → Int))} {d : Nat} {k : MI} {h : Hp} {pc pc2 : Nat} {lo : Lo} {st : List Value} {Q : Int → Hp → Prop} {a b off : Int} {tgt : Nat} (hd : decode k.2.1 pc = .ok (.if_icmp .lt off, 3)) (ht : (pc : Int) + off = (tgt : Int)) (hp : pc + 3 = pc2) (ha : -2147483648 ≤ a ∧ a ≤ 2147483647) (hb : -2147483648 ≤ b ∧ b ≤ 2147483647) (kk1 : a < b → XJ sc d k h tgt lo st Q) (kk2 : ¬ (a < b) → XJ sc d k h pc2 lo st Q) : XJ sc d k h pc lo (vi b :: vi a :: st) Q := by
  subst hp
  intro p l e R s m args below meth c Z G A cells slots C w z r f H locs ls hP hS hl
  exact lv_icmp_lt C.1 C.2.1 hd ht (fun q => kk1 ((rg_lt ha hb).mp q) p l e R s m args below meth c Z G A cells slots C w z r f H locs ls hP hS hl) (fun q => kk2 (fun q2 => q ((rg_lt ha hb).mpr q2)) p l e R s m args below meth c Z G A cells slots C w z r f H locs ls hP hS hl)
theorem xj_cmp_ge {sc : Option (Nat × (Int → Int))} {d : Nat} {k : MI} {h : Hp} {pc pc2 : Nat} {lo : Lo} {st : List Value} {Q : Int → Hp → Prop} {a b off : Int} {tgt : Nat} (hd : decode k.2.1 pc = .ok (.if_icmp .ge off, 3)) (ht : (pc : Int) + off = (tgt : Int)) (hp : pc + 3 = pc2) (ha : -2147483648 ≤ a ∧ a ≤ 2147483647) (hb : -2147483648 ≤ b ∧ b ≤ 2147483647) (kk1 : b ≤ a → XJ sc d k h tgt lo st Q) (kk2 : ¬ (b ≤ a) → XJ sc d k h pc2 lo st Q) : XJ sc d k h pc lo (vi b :: vi a :: st) Q := by
  subst hp
  intro p l e R s m args below meth c Z G A cells slots C w z r f H locs ls hP hS hl
  exact lv_icmp_ge C.1 C.2.1 hd ht (fun q => kk1 ((rg_le hb ha).mp q) p l e R s m args below meth c Z G A cells slots C w z r f H locs ls hP hS hl) (fun q => kk2 (fun q2 => q ((rg_le hb ha).mpr q2)) p l e R s m args below meth c Z G A cells slots C w z r f H locs ls hP hS hl)
theorem xj_cmp_gt {sc : Option (Nat × (Int → Int))} {d : Nat} {k : MI} {h : Hp} {pc pc2 : Nat} {lo : Lo} {st : List Value} {Q : Int → Hp → Prop} {a b off : Int} {tgt : Nat} (hd : decode k.2.1 pc = .ok (.if_icmp .gt off, 3)) (ht : (pc : Int) + off = (tgt : Int)) (hp : pc + 3 = pc2) (ha : -2147483648 ≤ a ∧ a ≤ 2147483647) (hb : -2147483648 ≤ b ∧ b ≤ 2147483647) (kk1 : b < a → XJ sc d k h tgt lo st Q) (kk2 : ¬ (b < a) → XJ sc d k h pc2 lo st Q) : XJ sc d k h pc lo (vi b :: vi a :: st) Q := by
  subst hp
  intro p l e R s m args below meth c Z G A cells slots C w z r f H locs ls hP hS hl
  exact lv_icmp_gt C.1 C.2.1 hd ht (fun q => kk1 ((rg_lt hb ha).mp q) p l e R s m args below meth c Z G A cells slots C w z r f H locs ls hP hS hl) (fun q => kk2 (fun q2 => q ((rg_lt hb ha).mpr q2)) p l e R s m args below meth c Z G A cells slots C w z r f H locs ls hP hS hl)
theorem xj_cmp_le {sc : Option (Nat × (Int → Int))} {d : Nat} {k : MI} {h : Hp} {pc pc2 : Nat} {lo : Lo} {st : List Value} {Q : Int → Hp → Prop} {a b off : Int} {tgt : Nat} (hd : decode k.2.1 pc = .ok (.if_icmp .le off, 3)) (ht : (pc : Int) + off = (tgt : Int)) (hp : pc + 3 = pc2) (ha : -2147483648 ≤ a ∧ a ≤ 2147483647) (hb : -2147483648 ≤ b ∧ b ≤ 2147483647) (kk1 : a ≤ b → XJ sc d k h tgt lo st Q) (kk2 : ¬ (a ≤ b) → XJ sc d k h pc2 lo st Q) : XJ sc d k h pc lo (vi b :: vi a :: st) Q := by
  subst hp
  intro p l e R s m args below meth c Z G A cells slots C w z r f H locs ls hP hS hl
  exact lv_icmp_le C.1 C.2.1 hd ht (fun q => kk1 ((rg_le ha hb).mp q) p l e R s m args below meth c Z G A cells slots C w z r f H locs ls hP hS hl) (fun q => kk2 (fun q2 => q ((rg_le ha hb).mpr q2)) p l e R s m args below meth c Z G A cells slots C w z r f H locs ls hP hS hl)
theorem r00 : -2147483648 ≤ (0 : Int) ∧ (0 : Int) ≤ 2147483647 := by decide
theorem xj_if_eq {sc : Option (Nat × (Int → Int))} {d : Nat} {k : MI} {h : Hp} {pc pc2 : Nat} {lo : Lo} {st : List Value} {Q : Int → Hp → Prop} {a off : Int} {tgt : Nat} (hd : decode k.2.1 pc = .ok (.ifCond .eq off, 3)) (ht : (pc : Int) + off = (tgt : Int)) (hp : pc + 3 = pc2) (ha : -2147483648 ≤ a ∧ a ≤ 2147483647) (kk1 : a = 0 → XJ sc d k h tgt lo st Q) (kk2 : ¬ (a = 0) → XJ sc d k h pc2 lo st Q) : XJ sc d k h pc lo (vi a :: st) Q := by
  subst hp
  intro p l e R s m args below meth c Z G A cells slots C w z r f H locs ls hP hS hl
  exact lv_if_eq C.1 C.2.1 hd ht (fun q => kk1 ((rg_eq ha r00).mp q) p l e R s m args below meth c Z G A cells slots C w z r f H locs ls hP hS hl) (fun q => kk2 (fun q2 => q ((rg_eq ha r00).mpr q2)) p l e R s m args below meth c Z G A cells slots C w z r f H locs ls hP hS hl)
theorem xj_if_ne {sc : Option (Nat × (Int → Int))} {d : Nat} {k : MI} {h : Hp} {pc pc2 : Nat} {lo : Lo} {st : List Value} {Q : Int → Hp → Prop} {a off : Int} {tgt : Nat} (hd : decode k.2.1 pc = .ok (.ifCond .ne off, 3)) (ht : (pc : Int) + off = (tgt : Int)) (hp : pc + 3 = pc2) (ha : -2147483648 ≤ a ∧ a ≤ 2147483647) (kk1 : ¬ a = 0 → XJ sc d k h tgt lo st Q) (kk2 : a = 0 → XJ sc d k h pc2 lo st Q) : XJ sc d k h pc lo (vi a :: st) Q := by
  subst hp
  intro p l e R s m args below meth c Z G A cells slots C w z r f H locs ls hP hS hl
  exact lv_if_ne C.1 C.2.1 hd ht (fun q => kk1 (fun q2 => q (by rw [q2]; rfl)) p l e R s m args below meth c Z G A cells slots C w z r f H locs ls hP hS hl) (fun q => kk2 ((rg_eq ha r00).mp q) p l e R s m args below meth c Z G A cells slots C w z r f H locs ls hP hS hl)
theorem xj_if_lt {sc : Option (Nat × (Int → Int))} {d : Nat} {k : MI} {h : Hp} {pc pc2 : Nat} {lo : Lo} {st : List Value} {Q : Int → Hp → Prop} {a off : Int} {tgt : Nat} (hd : decode k.2.1 pc = .ok (.ifCond .lt off, 3)) (ht : (pc : Int) + off = (tgt : Int)) (hp : pc + 3 = pc2) (ha : -2147483648 ≤ a ∧ a ≤ 2147483647) (kk1 : a < 0 → XJ sc d k h tgt lo st Q) (kk2 : ¬ (a < 0) → XJ sc d k h pc2 lo st Q) : XJ sc d k h pc lo (vi a :: st) Q := by
  subst hp
  intro p l e R s m args below meth c Z G A cells slots C w z r f H locs ls hP hS hl
  exact lv_if_lt C.1 C.2.1 hd ht (fun q => kk1 ((rg_lt ha r00).mp q) p l e R s m args below meth c Z G A cells slots C w z r f H locs ls hP hS hl) (fun q => kk2 (fun q2 => q ((rg_lt ha r00).mpr q2)) p l e R s m args below meth c Z G A cells slots C w z r f H locs ls hP hS hl)
theorem xj_if_ge {sc : Option (Nat × (Int → Int))} {d : Nat} {k : MI} {h : Hp} {pc pc2 : Nat} {lo : Lo} {st : List Value} {Q : Int → Hp → Prop} {a off : Int} {tgt : Nat} (hd : decode k.2.1 pc = .ok (.ifCond .ge off, 3)) (ht : (pc : Int) + off = (tgt : Int)) (hp : pc + 3 = pc2) (ha : -2147483648 ≤ a ∧ a ≤ 2147483647) (kk1 : 0 ≤ a → XJ sc d k h tgt lo st Q) (kk2 : ¬ (0 ≤ a) → XJ sc d k h pc2 lo st Q) : XJ sc d k h pc lo (vi a :: st) Q := by
  subst hp
  intro p l e R s m args below meth c Z G A cells slots C w z r f H locs ls hP hS hl
  exact lv_if_ge C.1 C.2.1 hd ht (fun q => kk1 ((rg_le r00 ha).mp q) p l e R s m args below meth c Z G A cells slots C w z r f H locs ls hP hS hl) (fun q => kk2 (fun q2 => q ((rg_le r00 ha).mpr q2)) p l e R s m args below meth c Z G A cells slots C w z r f H locs ls hP hS hl)
theorem xj_if_gt {sc : Option (Nat × (Int → Int))} {d : Nat} {k : MI} {h : Hp} {pc pc2 : Nat} {lo : Lo} {st : List Value} {Q : Int → Hp → Prop} {a off : Int} {tgt : Nat} (hd : decode k.2.1 pc = .ok (.ifCond .gt off, 3)) (ht : (pc : Int) + off = (tgt : Int)) (hp : pc + 3 = pc2) (ha : -2147483648 ≤ a ∧ a ≤ 2147483647) (kk1 : 0 < a → XJ sc d k h tgt lo st Q) (kk2 : ¬ (0 < a) → XJ sc d k h pc2 lo st Q) : XJ sc d k h pc lo (vi a :: st) Q := by
  subst hp
  intro p l e R s m args below meth c Z G A cells slots C w z r f H locs ls hP hS hl
  exact lv_if_gt C.1 C.2.1 hd ht (fun q => kk1 ((rg_lt r00 ha).mp q) p l e R s m args below meth c Z G A cells slots C w z r f H locs ls hP hS hl) (fun q => kk2 (fun q2 => q ((rg_lt r00 ha).mpr q2)) p l e R s m args below meth c Z G A cells slots C w z r f H locs ls hP hS hl)
theorem xj_if_le {sc : Option (Nat × (Int → Int))} {d : Nat} {k : MI} {h : Hp} {pc pc2 : Nat} {lo : Lo} {st : List Value} {Q : Int → Hp → Prop} {a off : Int} {tgt : Nat} (hd : decode k.2.1 pc = .ok (.ifCond .le off, 3)) (ht : (pc : Int) + off = (tgt : Int)) (hp : pc + 3 = pc2) (ha : -2147483648 ≤ a ∧ a ≤ 2147483647) (kk1 : a ≤ 0 → XJ sc d k h tgt lo st Q) (kk2 : ¬ (a ≤ 0) → XJ sc d k h pc2 lo st Q) : XJ sc d k h pc lo (vi a :: st) Q := by
  subst hp
  intro p l e R s m args below meth c Z G A cells slots C w z r f H locs ls hP hS hl
  exact lv_if_le C.1 C.2.1 hd ht (fun q => kk1 ((rg_le ha r00).mp q) p l e R s m args below meth c Z G A cells slots C w z r f H locs ls hP hS hl) (fun q => kk2 (fun q2 => q ((rg_le ha r00).mpr q2)) p l e R s m args below meth c Z G A cells slots C w z r f H locs ls hP hS hl)
theorem xj_goto {sc : Option (Nat × (Int → Int))} {d : Nat} {k : MI} {h : Hp} {pc : Nat} {lo : Lo} {st : List Value} {Q : Int → Hp → Prop} {off : Int} {tgt : Nat} (hd : decode k.2.1 pc = .ok (.goto off, 3)) (ht : (pc : Int) + off = (tgt : Int)) (kk : XJ sc d k h tgt lo st Q) : XJ sc d k h pc lo st Q := by
  intro p l e R s m args below meth c Z G A cells slots C w z r f H locs ls hP hS hl
  exact lv_goto C.1 C.2.1 hd ht (kk p l e R s m args below meth c Z G A cells slots C w z r f H locs ls hP hS hl)
theorem xj_ifnull {sc : Option (Nat × (Int → Int))} {d : Nat} {k : MI} {h : Hp} {pc pc2 : Nat} {lo : Lo} {st : List Value} {Q : Int → Hp → Prop} {off : Int} {a : Nat} (hd : decode k.2.1 pc = .ok (.ifnull off, 3)) (hp : pc + 3 = pc2) (kk : XJ sc d k h pc2 lo st Q) : XJ sc d k h pc lo (.ref a :: st) Q := by
  subst hp
  intro p l e R s m args below meth c Z G A cells slots C w z r f H locs ls hP hS hl
  exact lv_ifnull C.1 C.2.1 hd (kk p l e R s m args below meth c Z G A cells slots C w z r f H locs ls hP hS hl)
theorem xj_tabIn {sc : Option (Nat × (Int → Int))} {d : Nat} {k : MI} {h : Hp} {pc : Nat} {lo : Lo} {st : List Value} {Q : Int → Hp → Prop} {a dflt x1 x2 off : Int} {offs : Array Int} {len tgt : Nat} (hd : decode k.2.1 pc = .ok (.tableswitch dflt x1 x2 offs, len)) (ha : -2147483648 ≤ a ∧ a ≤ 2147483647) (h12 : x1 ≤ a ∧ a ≤ x2) (ho : offs[(a - x1).toNat]? = some off) (ht : (pc : Int) + off = (tgt : Int)) (kk : XJ sc d k h tgt lo st Q) : XJ sc d k h pc lo (vi a :: st) Q := by
  intro p l e R s m args below meth c Z G A cells slots C w z r f H locs ls hP hS hl
  exact lv_tableIn C.1 C.2.1 hd (by rw [rg_toInt ha]; omega) (by rw [rg_toInt ha]; omega) (by rw [rg_toInt ha]; exact ho) ht (kk p l e R s m args below meth c Z G A cells slots C w z r f H locs ls hP hS hl)
theorem xj_tabOut {sc : Option (Nat × (Int → Int))} {d : Nat} {k : MI} {h : Hp} {pc : Nat} {lo : Lo} {st : List Value} {Q : Int → Hp → Prop} {a dflt x1 x2 : Int} {offs : Array Int} {len tgt : Nat} (hd : decode k.2.1 pc = .ok (.tableswitch dflt x1 x2 offs, len)) (ha : -2147483648 ≤ a ∧ a ≤ 2147483647) (h12 : a < x1 ∨ x2 < a) (ht : (pc : Int) + dflt = (tgt : Int)) (kk : XJ sc d k h tgt lo st Q) : XJ sc d k h pc lo (vi a :: st) Q := by
  intro p l e R s m args below meth c Z G A cells slots C w z r f H locs ls hP hS hl
  exact lv_tableOut C.1 C.2.1 hd (by rw [rg_toInt ha]; exact h12) ht (kk p l e R s m args below meth c Z G A cells slots C w z r f H locs ls hP hS hl)
theorem xj_look {sc : Option (Nat × (Int → Int))} {d : Nat} {k : MI} {h : Hp} {pc : Nat} {lo : Lo} {st : List Value} {Q : Int → Hp → Prop} {a dflt off : Int} {ps : Array (Int × Int)} {len tgt : Nat} (hd : decode k.2.1 pc = .ok (.lookupswitch dflt ps, len)) (ha : -2147483648 ≤ a ∧ a ≤ 2147483647) (hs : (ps.toList.zip (ps.toList.drop 1)).all (fun (a, next) => a.1 < next.1) = true) (ho : Op.lookupswitch.offset ps.toList dflt a = off) (ht : (pc : Int) + off = (tgt : Int)) (kk : XJ sc d k h tgt lo st Q) : XJ sc d k h pc lo (vi a :: st) Q := by
  intro p l e R s m args below meth c Z G A cells slots C w z r f H locs ls hP hS hl
  exact lv_lookup C.1 C.2.1 hd hs (by rw [rg_toInt ha]; exact ho) ht (kk p l e R s m args below meth c Z G A cells slots C w z r f H locs ls hP hS hl)
