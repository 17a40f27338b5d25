/-! the class's static methods, the model's, the JDK's two -/
theorem memb_test {b g : Int} (hb : 0 ≤ b ∧ b ≤ 2147483647) (hg : 0 ≤ g ∧ g ≤ 30) : band (bshr b g) 1 = b / 2 ^ g.toNat % 2 := by
  obtain ⟨bn, rfl⟩ := Int.eq_ofNat_of_zero_le hb.1
  obtain ⟨gn, rfl⟩ := Int.eq_ofNat_of_zero_le hg.1
  have h1 : bn >>> gn < 2 ^ 31 := Nat.lt_of_le_of_lt (Nat.shiftRight_le _ _) (by omega)
  rw [bshr_nat (by omega) (by omega), show (1 : Int) = ((1 : Nat) : Int) from rfl, band_nat h1 (by decide), Nat.and_one_is_mod, Nat.shiftRight_eq_div_pow, Int.toNat_natCast]
  simp
theorem bor_add {b : Int} {j : Nat} (hb : 0 ≤ b ∧ b < 2 ^ j) (hj : j ≤ 30) : bor b (bshl 1 j) = b + 2 ^ j := by
  obtain ⟨bn, rfl⟩ := Int.eq_ofNat_of_zero_le hb.1
  have h2 : bn < 2 ^ j := by have := hb.2; exact_mod_cast this
  have h3 : 2 ^ j ≤ 2 ^ 30 := Nat.pow_le_pow_right (by decide) hj
  rw [bshl_one hj, show (2 : Int) ^ j = ((2 ^ j : Nat) : Int) by simp, bor_nat (by omega) (by omega)]
  have := Nat.two_pow_add_eq_or_of_lt h2 1
  rw [Nat.mul_one] at this
  rw [Nat.or_comm, ← this]
  simp [Int.add_comm]
/-- how many bits of a number below 1024 -/
def pc (x : Int) : Int := x % 2 + x / 2 % 2 + x / 4 % 2 + x / 8 % 2 + x / 16 % 2 + x / 32 % 2 + x / 64 % 2 + x / 128 % 2 + x / 256 % 2 + x / 512 % 2
def popE (x : Int) : Int :=
  let x1 := x - band (bushr x 1) 1431655765
  let x2 := band x1 858993459 + band (bushr x1 2) 858993459
  let x3 := band (x2 + bushr x2 4) 252645135
  let x4 := x3 + bushr x3 8
  let x5 := x4 + bushr x4 16
  band x5 63
theorem pop_fin : ∀ x : Fin 1024, popE ((x : Nat) : Int) = pc ((x : Nat) : Int) := by decide +kernel
theorem pop_ok {x : Int} (h : 0 ≤ x ∧ x < 1024) : popE x = pc x := by
  obtain ⟨n, rfl⟩ := Int.eq_ofNat_of_zero_le h.1
  exact pop_fin ⟨n, by omega⟩
def temperZ (k m a : Int) : Int := if k = 1 then (if m + a < 9 then m + a else 9) else if k = 2 then (if a % 2 = 0 then 0 else m) else if k = 3 then (if m ≤ a then 0 else m - a) else if k = 4 then (if m + 2 * a < 9 then m + 2 * a else 9) else m
def doz (m : Int) : Int := if m ≤ 8 then 0 else if m < 15 then 2 else 1
def kindz (c : Int) : Int := if c = 103 then 0 else if c = 107 then 1 else if c = 100 then 2 else if c = 111 then 3 else if c = 108 then 4 else -1
def agez (a : Int) : Int := if a < 20 then a else 20
theorem c_X6_within {a x y : Int} {h : Hp} {Q : Int → Hp → Prop} (ha : -2147483648 ≤ a ∧ a ≤ 2147483647) (hx : -2147483648 ≤ x ∧ x ≤ 2147483647) (hy : -2147483648 ≤ y ∧ y ≤ 2147483647) (h1 : x ≤ a ∧ a ≤ y → Q 1 h) (h0 : ¬ (x ≤ a ∧ a ≤ y) → Q 0 h) : CJ 0 kX6_within [vi a, vi x, vi y] h Q := by
  refine cj_of (lo := [some (vi a), some (vi x), some (vi y)]) mok_X6_within (fun _ => rfl) (fun _ => Nat.le_of_ble_eq_true rfl) ?_
  refine xj_iload_n (pc2 := 1) dX6_within_0 rfl rfl rfl ?_
  refine xj_iload_n (pc2 := 2) dX6_within_1 rfl rfl rfl ?_
  refine xj_cmp_lt (pc2 := 5) (tgt := 14) dX6_within_2 rfl rfl (by omega) (by omega) (fun c_2 => ?_) (fun c_2 => ?_)
  · -- 14
    refine xj_iconst (pc2 := 15) dX6_within_14 rfl ?_
    refine xj_zret dX6_within_15 rfl (by decide) ?_
    first | exact h1 (by omega) | exact h0 (by omega)
  · -- 5
    refine xj_iload_n (pc2 := 6) dX6_within_5 rfl rfl rfl ?_
    refine xj_iload_n (pc2 := 7) dX6_within_6 rfl rfl rfl ?_
    refine xj_cmp_gt (pc2 := 10) (tgt := 14) dX6_within_7 rfl rfl (by omega) (by omega) (fun c_7 => ?_) (fun c_7 => ?_)
    · -- 14
      refine xj_iconst (pc2 := 15) dX6_within_14 rfl ?_
      refine xj_zret dX6_within_15 rfl (by decide) ?_
      first | exact h1 (by omega) | exact h0 (by omega)
    · -- 10
      refine xj_iconst (pc2 := 11) dX6_within_10 rfl ?_
      refine xj_goto (tgt := 15) dX6_within_11 rfl ?_
      refine xj_zret dX6_within_15 rfl (by decide) ?_
      first | exact h1 (by omega) | exact h0 (by omega)
theorem c_X6_at {c n : Nat} {i v : Int} {h : Hp} {Q : Int → Hp → Prop} (hk : kd c = (1, n)) (hi : 0 ≤ i ∧ i < n) (hn : n ≤ 4096) (hv : h c i = v) (hq : Q v h) : CJ 0 kX6_at [.ref c, vi i] h Q := by
  refine cj_of (lo := [some (.ref c), some (vi i)]) mok_X6_at (fun _ => rfl) (fun _ => Nat.le_of_ble_eq_true rfl) ?_
  refine xj_aload_n (pc2 := 1) dX6_at_0 rfl rfl rfl ?_
  refine xj_ifnull (pc2 := 4) dX6_at_1 rfl ?_
  refine xj_iload_n (pc2 := 5) dX6_at_4 rfl rfl rfl ?_
  refine xj_if_lt (pc2 := 8) (tgt := 20) dX6_at_5 rfl rfl (by omega) (fun c_5 => by exfalso; omega) (fun c_5 => ?_)
  refine xj_iload_n (pc2 := 9) dX6_at_8 rfl rfl rfl ?_
  refine xj_aload_n (pc2 := 10) dX6_at_9 rfl rfl rfl ?_
  refine xj_alen (pc2 := 11) dX6_at_10 rfl hk rfl ?_
  refine xj_cmp_ge (pc2 := 14) (tgt := 20) dX6_at_11 rfl rfl (by omega) (by omega) (fun c_11 => by exfalso; omega) (fun c_11 => ?_)
  refine xj_aload_n (pc2 := 15) dX6_at_14 rfl rfl rfl ?_
  refine xj_iload_n (pc2 := 16) dX6_at_15 rfl rfl rfl ?_
  refine xj_iald (pc2 := 17) dX6_at_16 rfl hk (by omega) (by omega) hv ?_
  refine xj_goto (tgt := 21) dX6_at_17 rfl ?_
  refine xj_iret dX6_at_21 rfl ?_
  exact hq
theorem c_X6_put {c n : Nat} {i v : Int} {h : Hp} {Q : Int → Hp → Prop} (hk : kd c = (1, n)) (hi : 0 ≤ i ∧ i < n) (hn : n ≤ 4096) (hq : Q 0 (hset h c i v)) : CJ 0 kX6_put [.ref c, vi i, vi v] h Q := by
  refine cj_of (lo := [some (.ref c), some (vi i), some (vi v)]) mok_X6_put (fun _ => rfl) (fun _ => Nat.le_of_ble_eq_true rfl) ?_
  refine xj_aload_n (pc2 := 1) dX6_put_0 rfl rfl rfl ?_
  refine xj_ifnull (pc2 := 4) dX6_put_1 rfl ?_
  refine xj_iload_n (pc2 := 5) dX6_put_4 rfl rfl rfl ?_
  refine xj_if_lt (pc2 := 8) (tgt := 18) dX6_put_5 rfl rfl (by omega) (fun c_5 => by exfalso; omega) (fun c_5 => ?_)
  refine xj_iload_n (pc2 := 9) dX6_put_8 rfl rfl rfl ?_
  refine xj_aload_n (pc2 := 10) dX6_put_9 rfl rfl rfl ?_
  refine xj_alen (pc2 := 11) dX6_put_10 rfl hk rfl ?_
  refine xj_cmp_ge (pc2 := 14) (tgt := 18) dX6_put_11 rfl rfl (by omega) (by omega) (fun c_11 => by exfalso; omega) (fun c_11 => ?_)
  refine xj_aload_n (pc2 := 15) dX6_put_14 rfl rfl rfl ?_
  refine xj_iload_n (pc2 := 16) dX6_put_15 rfl rfl rfl ?_
  refine xj_iload_n (pc2 := 17) dX6_put_16 rfl rfl rfl ?_
  refine xj_iast (pc2 := 18) dX6_put_17 rfl hk (by omega) (by omega) ?_
  refine xj_vret dX6_put_18 rfl ?_
  exact hq
theorem c_X6_copyRow {c c2 n n2 : Nat} {h : Hp} {Q : Int → Hp → Prop} (hk : kd c = (1, n)) (hk2 : kd c2 = (1, n2)) (hn : n ≤ 4096) (hn2 : n2 ≤ 4096) (hq : Q 0 (hcopy h c c2 (min (n : Int) n2))) : CJ 0 kX6_copyRow [.ref c, .ref c2] h Q := by
  refine cj_of (lo := [some (.ref c), some (.ref c2)]) mok_X6_copyRow (fun _ => rfl) (fun _ => Nat.le_of_ble_eq_true rfl) ?_
  refine xj_aload_n (pc2 := 1) dX6_copyRow_0 rfl rfl rfl ?_
  refine xj_ifnull (pc2 := 4) dX6_copyRow_1 rfl ?_
  refine xj_aload_n (pc2 := 5) dX6_copyRow_4 rfl rfl rfl ?_
  refine xj_ifnull (pc2 := 8) dX6_copyRow_5 rfl ?_
  refine xj_aload_n (pc2 := 9) dX6_copyRow_8 rfl rfl rfl ?_
  refine xj_iconst (pc2 := 10) dX6_copyRow_9 rfl ?_
  refine xj_aload_n (pc2 := 11) dX6_copyRow_10 rfl rfl rfl ?_
  refine xj_iconst (pc2 := 12) dX6_copyRow_11 rfl ?_
  refine xj_aload_n (pc2 := 13) dX6_copyRow_12 rfl rfl rfl ?_
  refine xj_alen (pc2 := 14) dX6_copyRow_13 rfl hk rfl ?_
  refine xj_aload_n (pc2 := 15) dX6_copyRow_14 rfl rfl rfl ?_
  refine xj_alen (pc2 := 16) dX6_copyRow_15 rfl hk2 rfl ?_
  refine xj_mmin (pc2 := 19) ml_X6_281 dX6_copyRow_16 rfl rfl (by omega) (by omega) (Nat.le_of_ble_eq_true rfl) ?_
  refine xj_copy (pc2 := 22) ml_X6_286 dX6_copyRow_19 rfl rfl hk hk2 (by omega) rfl ?_
  refine xj_vret dX6_copyRow_22 rfl ?_
  exact hq
theorem c_X6_hasBit {b g : Int} {h : Hp} {Q : Int → Hp → Prop} (hb : 0 ≤ b ∧ b ≤ 2147483647) (hg : 0 ≤ g ∧ g ≤ 30) (h1 : mem b g → Q 1 h) (h0 : ¬ mem b g → Q 0 h) : CJ 0 kX6_hasBit [vi b, vi g] h Q := by
  have e := memb_test hb hg
  have e2 : 0 ≤ b / 2 ^ g.toNat % 2 ∧ b / 2 ^ g.toNat % 2 < 2 := ⟨Int.emod_nonneg _ (by decide), Int.emod_lt_of_pos _ (by decide)⟩
  unfold mem at h1 h0
  refine cj_of (lo := [some (vi b), some (vi g)]) mok_X6_hasBit (fun _ => rfl) (fun _ => Nat.le_of_ble_eq_true rfl) ?_
  refine xj_iload_n (pc2 := 1) dX6_hasBit_0 rfl rfl rfl ?_
  refine xj_iload_n (pc2 := 2) dX6_hasBit_1 rfl rfl rfl ?_
  refine xj_ishr (pc2 := 3) dX6_hasBit_2 rfl ?_
  refine xj_iconst (pc2 := 4) dX6_hasBit_3 rfl ?_
  refine xj_iand (pc2 := 5) dX6_hasBit_4 rfl ?_
  rw [e]
  refine xj_if_eq (pc2 := 8) (tgt := 12) dX6_hasBit_5 rfl rfl (by omega) (fun c_5 => ?_) (fun c_5 => ?_)
  · -- 12
    refine xj_iconst (pc2 := 13) dX6_hasBit_12 rfl ?_
    refine xj_zret dX6_hasBit_13 rfl (by decide) ?_
    first | exact h1 (by omega) | exact h0 (by omega)
  · -- 8
    refine xj_iconst (pc2 := 9) dX6_hasBit_8 rfl ?_
    refine xj_goto (tgt := 13) dX6_hasBit_9 rfl ?_
    refine xj_zret dX6_hasBit_13 rfl (by decide) ?_
    first | exact h1 (by omega) | exact h0 (by omega)
theorem c_X6_kindOf {a : Int} {h : Hp} {Q : Int → Hp → Prop} (ha : -2147483648 ≤ a ∧ a ≤ 2147483647) (hq : Q (kindz a) h) : CJ 0 kX6_kindOf [vi a] h Q := by
  refine cj_of (lo := [some (vi a)]) mok_X6_kindOf (fun _ => rfl) (fun _ => Nat.le_of_ble_eq_true rfl) ?_
  refine xj_iload_n (pc2 := 1) dX6_kindOf_0 rfl rfl rfl ?_
  refine tsw_X6_kindOf_1 (by omega) (fun c_1 => ?_) (fun c_1 => ?_) (fun c_1 => ?_) (fun c_1 => ?_) (fun c_1 => ?_) (fun c_1 => ?_) (fun c_1 => ?_) (fun c_1 => ?_) (fun c_1 => ?_) (fun c_1 => ?_) (fun c_1 => ?_) (fun c_1 => ?_) (fun c_1 => ?_)
  · -- 68
    refine xj_iconst (pc2 := 69) dX6_kindOf_68 rfl ?_
    refine xj_iret dX6_kindOf_69 rfl ?_
    exact q_eq (by unfold kindz; (repeat' split) <;> omega) hq
  · -- 74
    refine xj_iconst (pc2 := 75) dX6_kindOf_74 rfl ?_
    refine xj_iret dX6_kindOf_75 rfl ?_
    exact q_eq (by unfold kindz; (repeat' split) <;> omega) hq
  · -- 74
    refine xj_iconst (pc2 := 75) dX6_kindOf_74 rfl ?_
    refine xj_iret dX6_kindOf_75 rfl ?_
    exact q_eq (by unfold kindz; (repeat' split) <;> omega) hq
  · -- 64
    refine xj_iconst (pc2 := 65) dX6_kindOf_64 rfl ?_
    refine xj_iret dX6_kindOf_65 rfl ?_
    exact q_eq (by unfold kindz; (repeat' split) <;> omega) hq
  · -- 74
    refine xj_iconst (pc2 := 75) dX6_kindOf_74 rfl ?_
    refine xj_iret dX6_kindOf_75 rfl ?_
    exact q_eq (by unfold kindz; (repeat' split) <;> omega) hq
  · -- 74
    refine xj_iconst (pc2 := 75) dX6_kindOf_74 rfl ?_
    refine xj_iret dX6_kindOf_75 rfl ?_
    exact q_eq (by unfold kindz; (repeat' split) <;> omega) hq
  · -- 74
    refine xj_iconst (pc2 := 75) dX6_kindOf_74 rfl ?_
    refine xj_iret dX6_kindOf_75 rfl ?_
    exact q_eq (by unfold kindz; (repeat' split) <;> omega) hq
  · -- 66
    refine xj_iconst (pc2 := 67) dX6_kindOf_66 rfl ?_
    refine xj_iret dX6_kindOf_67 rfl ?_
    exact q_eq (by unfold kindz; (repeat' split) <;> omega) hq
  · -- 72
    refine xj_iconst (pc2 := 73) dX6_kindOf_72 rfl ?_
    refine xj_iret dX6_kindOf_73 rfl ?_
    exact q_eq (by unfold kindz; (repeat' split) <;> omega) hq
  · -- 74
    refine xj_iconst (pc2 := 75) dX6_kindOf_74 rfl ?_
    refine xj_iret dX6_kindOf_75 rfl ?_
    exact q_eq (by unfold kindz; (repeat' split) <;> omega) hq
  · -- 74
    refine xj_iconst (pc2 := 75) dX6_kindOf_74 rfl ?_
    refine xj_iret dX6_kindOf_75 rfl ?_
    exact q_eq (by unfold kindz; (repeat' split) <;> omega) hq
  · -- 70
    refine xj_iconst (pc2 := 71) dX6_kindOf_70 rfl ?_
    refine xj_iret dX6_kindOf_71 rfl ?_
    exact q_eq (by unfold kindz; (repeat' split) <;> omega) hq
  · -- 74
    refine xj_iconst (pc2 := 75) dX6_kindOf_74 rfl ?_
    refine xj_iret dX6_kindOf_75 rfl ?_
    exact q_eq (by unfold kindz; (repeat' split) <;> omega) hq
theorem c_X6_isOfKind {a b : Int} {h : Hp} {Q : Int → Hp → Prop} (ha : -2147483648 ≤ a ∧ a ≤ 2147483647) (hb : -2147483648 ≤ b ∧ b ≤ 2147483647) (h1 : b = 0 ∨ a = b ∨ (b = 1 ∧ a = 4) → Q 1 h) (h0 : ¬ (b = 0 ∨ a = b ∨ (b = 1 ∧ a = 4)) → Q 0 h) : CJ 0 kX6_isOfKind [vi a, vi b] h Q := by
  refine cj_of (lo := [some (vi a), some (vi b)]) mok_X6_isOfKind (fun _ => rfl) (fun _ => Nat.le_of_ble_eq_true rfl) ?_
  refine xj_iload_n (pc2 := 1) dX6_isOfKind_0 rfl rfl rfl ?_
  refine xj_if_eq (pc2 := 4) (tgt := 19) dX6_isOfKind_1 rfl rfl (by omega) (fun c_1 => ?_) (fun c_1 => ?_)
  · -- 19
    refine xj_iconst (pc2 := 20) dX6_isOfKind_19 rfl ?_
    refine xj_goto (tgt := 24) dX6_isOfKind_20 rfl ?_
    refine xj_zret dX6_isOfKind_24 rfl (by decide) ?_
    first | exact h1 (by omega) | exact h0 (by omega)
  · -- 4
    refine xj_iload_n (pc2 := 5) dX6_isOfKind_4 rfl rfl rfl ?_
    refine xj_iload_n (pc2 := 6) dX6_isOfKind_5 rfl rfl rfl ?_
    refine xj_cmp_eq (pc2 := 9) (tgt := 19) dX6_isOfKind_6 rfl rfl (by omega) (by omega) (fun c_6 => ?_) (fun c_6 => ?_)
    · -- 19
      refine xj_iconst (pc2 := 20) dX6_isOfKind_19 rfl ?_
      refine xj_goto (tgt := 24) dX6_isOfKind_20 rfl ?_
      refine xj_zret dX6_isOfKind_24 rfl (by decide) ?_
      first | exact h1 (by omega) | exact h0 (by omega)
    · -- 9
      refine xj_iload_n (pc2 := 10) dX6_isOfKind_9 rfl rfl rfl ?_
      refine xj_iconst (pc2 := 11) dX6_isOfKind_10 rfl ?_
      refine xj_cmp_ne (pc2 := 14) (tgt := 23) dX6_isOfKind_11 rfl rfl (by omega) (by omega) (fun c_11 => ?_) (fun c_11 => ?_)
      · -- 23
        refine xj_iconst (pc2 := 24) dX6_isOfKind_23 rfl ?_
        refine xj_zret dX6_isOfKind_24 rfl (by decide) ?_
        first | exact h1 (by omega) | exact h0 (by omega)
      · -- 14
        refine xj_iload_n (pc2 := 15) dX6_isOfKind_14 rfl rfl rfl ?_
        refine xj_iconst (pc2 := 16) dX6_isOfKind_15 rfl ?_
        refine xj_cmp_ne (pc2 := 19) (tgt := 23) dX6_isOfKind_16 rfl rfl (by omega) (by omega) (fun c_16 => ?_) (fun c_16 => ?_)
        · -- 23
          refine xj_iconst (pc2 := 24) dX6_isOfKind_23 rfl ?_
          refine xj_zret dX6_isOfKind_24 rfl (by decide) ?_
          first | exact h1 (by omega) | exact h0 (by omega)
        · -- 19
          refine xj_iconst (pc2 := 20) dX6_isOfKind_19 rfl ?_
          refine xj_goto (tgt := 24) dX6_isOfKind_20 rfl ?_
          refine xj_zret dX6_isOfKind_24 rfl (by decide) ?_
          first | exact h1 (by omega) | exact h0 (by omega)
theorem c_X6_ageOf {a : Int} {h : Hp} {Q : Int → Hp → Prop} (ha : -2147483648 ≤ a ∧ a ≤ 2147483647) (hq : Q (agez a) h) : CJ 0 kX6_ageOf [vi a] h Q := by
  refine cj_of (lo := [some (vi a)]) mok_X6_ageOf (fun _ => rfl) (fun _ => Nat.le_of_ble_eq_true rfl) ?_
  refine xj_iload_n (pc2 := 1) dX6_ageOf_0 rfl rfl rfl ?_
  refine xj_bipush (pc2 := 3) dX6_ageOf_1 rfl (by decide) ?_
  refine xj_cmp_ge (pc2 := 6) (tgt := 10) dX6_ageOf_3 rfl rfl (by omega) (by omega) (fun c_3 => ?_) (fun c_3 => ?_)
  · -- 10
    refine xj_bipush (pc2 := 12) dX6_ageOf_10 rfl (by decide) ?_
    refine xj_iret dX6_ageOf_12 rfl ?_
    exact q_eq (by unfold agez; split <;> omega) hq
  · -- 6
    refine xj_iload_n (pc2 := 7) dX6_ageOf_6 rfl rfl rfl ?_
    refine xj_goto (tgt := 12) dX6_ageOf_7 rfl ?_
    refine xj_iret dX6_ageOf_12 rfl ?_
    exact q_eq (by unfold agez; split <;> omega) hq
theorem c_X6_temperOf {k m a : Int} {h : Hp} {Q : Int → Hp → Prop} (hk : 0 ≤ k ∧ k ≤ 4) (hm : 0 ≤ m ∧ m ≤ 9) (ha : 0 ≤ a ∧ a ≤ 20) (hq : Q (temperZ k m a) h) : CJ 0 kX6_temperOf [vi k, vi m, vi a] h Q := by
  refine cj_of (lo := [some (vi k), some (vi m), some (vi a)]) mok_X6_temperOf (fun _ => rfl) (fun _ => Nat.le_of_ble_eq_true rfl) ?_
  refine xj_iload_n (pc2 := 1) dX6_temperOf_0 rfl rfl rfl ?_
  refine tsw_X6_temperOf_1 (by omega) (fun c_1 => ?_) (fun c_1 => ?_) (fun c_1 => ?_) (fun c_1 => ?_) (fun c_1 => ?_)
  · -- 32
    refine xj_iload_n (pc2 := 33) dX6_temperOf_32 rfl rfl rfl ?_
    refine xj_iload_n (pc2 := 34) dX6_temperOf_33 rfl rfl rfl ?_
    refine xj_iadd (pc2 := 35) dX6_temperOf_34 rfl ?_
    refine xj_bipush (pc2 := 37) dX6_temperOf_35 rfl (by decide) ?_
    refine xj_cmp_ge (pc2 := 40) (tgt := 46) dX6_temperOf_37 rfl rfl (by omega) (by omega) (fun c_37 => ?_) (fun c_37 => ?_)
    · -- 46
      refine xj_bipush (pc2 := 48) dX6_temperOf_46 rfl (by decide) ?_
      refine xj_iret dX6_temperOf_48 rfl ?_
      exact q_eq (by unfold temperZ; (repeat' split) <;> omega) hq
    · -- 40
      refine xj_iload_n (pc2 := 41) dX6_temperOf_40 rfl rfl rfl ?_
      refine xj_iload_n (pc2 := 42) dX6_temperOf_41 rfl rfl rfl ?_
      refine xj_iadd (pc2 := 43) dX6_temperOf_42 rfl ?_
      refine xj_goto (tgt := 48) dX6_temperOf_43 rfl ?_
      refine xj_iret dX6_temperOf_48 rfl ?_
      exact q_eq (by unfold temperZ; (repeat' split) <;> omega) hq
  · -- 70
    refine xj_iload_n (pc2 := 71) dX6_temperOf_70 rfl rfl rfl ?_
    refine xj_iconst (pc2 := 72) dX6_temperOf_71 rfl ?_
    refine xj_irem (pc2 := 73) dX6_temperOf_72 rfl (by omega) (by omega) ?_
    refine xj_if_eq (pc2 := 76) (tgt := 80) dX6_temperOf_73 rfl rfl (by omega) (fun c_73 => ?_) (fun c_73 => ?_)
    · -- 80
      refine xj_iconst (pc2 := 81) dX6_temperOf_80 rfl ?_
      refine xj_iret dX6_temperOf_81 rfl ?_
      exact q_eq (by unfold temperZ; (repeat' split) <;> omega) hq
    · -- 76
      refine xj_iload_n (pc2 := 77) dX6_temperOf_76 rfl rfl rfl ?_
      refine xj_goto (tgt := 81) dX6_temperOf_77 rfl ?_
      refine xj_iret dX6_temperOf_81 rfl ?_
      exact q_eq (by unfold temperZ; (repeat' split) <;> omega) hq
  · -- 82
    refine xj_iload_n (pc2 := 83) dX6_temperOf_82 rfl rfl rfl ?_
    refine xj_iload_n (pc2 := 84) dX6_temperOf_83 rfl rfl rfl ?_
    refine xj_cmp_le (pc2 := 87) (tgt := 93) dX6_temperOf_84 rfl rfl (by omega) (by omega) (fun c_84 => ?_) (fun c_84 => ?_)
    · -- 93
      refine xj_iconst (pc2 := 94) dX6_temperOf_93 rfl ?_
      refine xj_iret dX6_temperOf_94 rfl ?_
      exact q_eq (by unfold temperZ; (repeat' split) <;> omega) hq
    · -- 87
      refine xj_iload_n (pc2 := 88) dX6_temperOf_87 rfl rfl rfl ?_
      refine xj_iload_n (pc2 := 89) dX6_temperOf_88 rfl rfl rfl ?_
      refine xj_isub (pc2 := 90) dX6_temperOf_89 rfl ?_
      refine xj_goto (tgt := 94) dX6_temperOf_90 rfl ?_
      refine xj_iret dX6_temperOf_94 rfl ?_
      exact q_eq (by unfold temperZ; (repeat' split) <;> omega) hq
  · -- 49
    refine xj_iload_n (pc2 := 50) dX6_temperOf_49 rfl rfl rfl ?_
    refine xj_iconst (pc2 := 51) dX6_temperOf_50 rfl ?_
    refine xj_iload_n (pc2 := 52) dX6_temperOf_51 rfl rfl rfl ?_
    refine xj_imul (pc2 := 53) dX6_temperOf_52 rfl ?_
    refine xj_iadd (pc2 := 54) dX6_temperOf_53 rfl ?_
    refine xj_bipush (pc2 := 56) dX6_temperOf_54 rfl (by decide) ?_
    refine xj_cmp_ge (pc2 := 59) (tgt := 67) dX6_temperOf_56 rfl rfl (by omega) (by omega) (fun c_56 => ?_) (fun c_56 => ?_)
    · -- 67
      refine xj_bipush (pc2 := 69) dX6_temperOf_67 rfl (by decide) ?_
      refine xj_iret dX6_temperOf_69 rfl ?_
      exact q_eq (by unfold temperZ; (repeat' split) <;> omega) hq
    · -- 59
      refine xj_iload_n (pc2 := 60) dX6_temperOf_59 rfl rfl rfl ?_
      refine xj_iconst (pc2 := 61) dX6_temperOf_60 rfl ?_
      refine xj_iload_n (pc2 := 62) dX6_temperOf_61 rfl rfl rfl ?_
      refine xj_imul (pc2 := 63) dX6_temperOf_62 rfl ?_
      refine xj_iadd (pc2 := 64) dX6_temperOf_63 rfl ?_
      refine xj_goto (tgt := 69) dX6_temperOf_64 rfl ?_
      refine xj_iret dX6_temperOf_69 rfl ?_
      exact q_eq (by unfold temperZ; (repeat' split) <;> omega) hq
  · -- 95
    refine xj_iload_n (pc2 := 96) dX6_temperOf_95 rfl rfl rfl ?_
    refine xj_iret dX6_temperOf_96 rfl ?_
    exact q_eq (by unfold temperZ; (repeat' split) <;> omega) hq
theorem c_X6_doing {a : Int} {h : Hp} {Q : Int → Hp → Prop} (ha : -2147483648 ≤ a ∧ a ≤ 2147483647) (hq : Q (doz a) h) : CJ 0 kX6_doing [vi a] h Q := by
  refine cj_of (lo := [some (vi a)]) mok_X6_doing (fun _ => rfl) (fun _ => Nat.le_of_ble_eq_true rfl) ?_
  refine xj_iload_n (pc2 := 1) dX6_doing_0 rfl rfl rfl ?_
  refine xj_bipush (pc2 := 3) dX6_doing_1 rfl (by decide) ?_
  refine xj_cmp_gt (pc2 := 6) (tgt := 8) dX6_doing_3 rfl rfl (by omega) (by omega) (fun c_3 => ?_) (fun c_3 => ?_)
  · -- 8
    refine xj_iload_n (pc2 := 9) dX6_doing_8 rfl rfl rfl ?_
    refine xj_bipush (pc2 := 11) dX6_doing_9 rfl (by decide) ?_
    refine xj_cmp_lt (pc2 := 14) (tgt := 18) dX6_doing_11 rfl rfl (by omega) (by omega) (fun c_11 => ?_) (fun c_11 => ?_)
    · -- 18
      refine xj_iconst (pc2 := 19) dX6_doing_18 rfl ?_
      refine xj_iret dX6_doing_19 rfl ?_
      exact q_eq (by unfold doz; (repeat' split) <;> omega) hq
    · -- 14
      refine xj_iconst (pc2 := 15) dX6_doing_14 rfl ?_
      refine xj_goto (tgt := 19) dX6_doing_15 rfl ?_
      refine xj_iret dX6_doing_19 rfl ?_
      exact q_eq (by unfold doz; (repeat' split) <;> omega) hq
  · -- 6
    refine xj_iconst (pc2 := 7) dX6_doing_6 rfl ?_
    refine xj_iret dX6_doing_7 rfl ?_
    exact q_eq (by unfold doz; (repeat' split) <;> omega) hq
theorem c_X6_hasShop {n : Int} {h : Hp} {Q : Int → Hp → Prop} (hn : h 2 11 = n) (hr : -2147483648 ≤ n ∧ n ≤ 2147483647) (h1 : 0 < n → Q 1 h) (h0 : ¬ (0 < n) → Q 0 h) : CJ 0 kX6_hasShop [.ref 0] h Q := by
  refine cj_of (lo := [some (.ref 0)]) mok_X6_hasShop (fun _ => rfl) (fun _ => Nat.le_of_ble_eq_true rfl) ?_
  refine xj_aload_n (pc2 := 1) dX6_hasShop_0 rfl rfl rfl ?_
  refine xj_getRn (pc2 := 4) (c2 := 2) fok_X6_19 dX6_hasShop_1 rfl rfl rfl rfl rfl ?_
  refine xj_getI (pc2 := 7) (kz := 11) fok_X6_88 dX6_hasShop_4 rfl rfl rfl (by decide) rfl (by first | assumption | rfl) ?_
  refine xj_if_le (pc2 := 10) (tgt := 14) dX6_hasShop_7 rfl rfl (by omega) (fun c_7 => ?_) (fun c_7 => ?_)
  · -- 14
    refine xj_iconst (pc2 := 15) dX6_hasShop_14 rfl ?_
    refine xj_zret dX6_hasShop_15 rfl (by decide) ?_
    first | exact h1 (by omega) | exact h0 (by omega)
  · -- 10
    refine xj_iconst (pc2 := 11) dX6_hasShop_10 rfl ?_
    refine xj_goto (tgt := 15) dX6_hasShop_11 rfl ?_
    refine xj_zret dX6_hasShop_15 rfl (by decide) ?_
    first | exact h1 (by omega) | exact h0 (by omega)
theorem c_bitCount {a : Int} {h : Hp} {Q : Int → Hp → Prop} (ha : 0 ≤ a ∧ a < 1024) (hq : Q (pc a) h) : CJ 0 kJ6_bitCount_0f7a4 [vi a] h Q := by
  refine cj_of (lo := [some (vi a)]) mok_J6_bitCount_0f7a4 (fun _ => rfl) (fun _ => Nat.le_of_ble_eq_true rfl) ?_
  refine xj_iload_n (pc2 := 1) dJ6_bitCount_0f7a4_0 rfl rfl rfl ?_
  refine xj_iload_n (pc2 := 2) dJ6_bitCount_0f7a4_1 rfl rfl rfl ?_
  refine xj_iconst (pc2 := 3) dJ6_bitCount_0f7a4_2 rfl ?_
  refine xj_iushr (pc2 := 4) dJ6_bitCount_0f7a4_3 rfl ?_
  refine xj_ldcw (pc2 := 7) (n := 1431655765) dJ6_bitCount_0f7a4_4 rfl k_J6_265 rfl ?_
  refine xj_iand (pc2 := 8) dJ6_bitCount_0f7a4_7 rfl ?_
  refine xj_isub (pc2 := 9) dJ6_bitCount_0f7a4_8 rfl ?_
  refine xj_istore0 (pc2 := 10) dJ6_bitCount_0f7a4_9 rfl rfl (by decide) rfl ?_
  refine xj_iload_n (pc2 := 11) dJ6_bitCount_0f7a4_10 rfl rfl rfl ?_
  refine xj_ldcw (pc2 := 14) (n := 858993459) dJ6_bitCount_0f7a4_11 rfl k_J6_266 rfl ?_
  refine xj_iand (pc2 := 15) dJ6_bitCount_0f7a4_14 rfl ?_
  refine xj_iload_n (pc2 := 16) dJ6_bitCount_0f7a4_15 rfl rfl rfl ?_
  refine xj_iconst (pc2 := 17) dJ6_bitCount_0f7a4_16 rfl ?_
  refine xj_iushr (pc2 := 18) dJ6_bitCount_0f7a4_17 rfl ?_
  refine xj_ldcw (pc2 := 21) (n := 858993459) dJ6_bitCount_0f7a4_18 rfl k_J6_266 rfl ?_
  refine xj_iand (pc2 := 22) dJ6_bitCount_0f7a4_21 rfl ?_
  refine xj_iadd (pc2 := 23) dJ6_bitCount_0f7a4_22 rfl ?_
  refine xj_istore0 (pc2 := 24) dJ6_bitCount_0f7a4_23 rfl rfl (by decide) rfl ?_
  refine xj_iload_n (pc2 := 25) dJ6_bitCount_0f7a4_24 rfl rfl rfl ?_
  refine xj_iload_n (pc2 := 26) dJ6_bitCount_0f7a4_25 rfl rfl rfl ?_
  refine xj_iconst (pc2 := 27) dJ6_bitCount_0f7a4_26 rfl ?_
  refine xj_iushr (pc2 := 28) dJ6_bitCount_0f7a4_27 rfl ?_
  refine xj_iadd (pc2 := 29) dJ6_bitCount_0f7a4_28 rfl ?_
  refine xj_ldcw (pc2 := 32) (n := 252645135) dJ6_bitCount_0f7a4_29 rfl k_J6_267 rfl ?_
  refine xj_iand (pc2 := 33) dJ6_bitCount_0f7a4_32 rfl ?_
  refine xj_istore0 (pc2 := 34) dJ6_bitCount_0f7a4_33 rfl rfl (by decide) rfl ?_
  refine xj_iload_n (pc2 := 35) dJ6_bitCount_0f7a4_34 rfl rfl rfl ?_
  refine xj_iload_n (pc2 := 36) dJ6_bitCount_0f7a4_35 rfl rfl rfl ?_
  refine xj_bipush (pc2 := 38) dJ6_bitCount_0f7a4_36 rfl (by decide) ?_
  refine xj_iushr (pc2 := 39) dJ6_bitCount_0f7a4_38 rfl ?_
  refine xj_iadd (pc2 := 40) dJ6_bitCount_0f7a4_39 rfl ?_
  refine xj_istore0 (pc2 := 41) dJ6_bitCount_0f7a4_40 rfl rfl (by decide) rfl ?_
  refine xj_iload_n (pc2 := 42) dJ6_bitCount_0f7a4_41 rfl rfl rfl ?_
  refine xj_iload_n (pc2 := 43) dJ6_bitCount_0f7a4_42 rfl rfl rfl ?_
  refine xj_bipush (pc2 := 45) dJ6_bitCount_0f7a4_43 rfl (by decide) ?_
  refine xj_iushr (pc2 := 46) dJ6_bitCount_0f7a4_45 rfl ?_
  refine xj_iadd (pc2 := 47) dJ6_bitCount_0f7a4_46 rfl ?_
  refine xj_istore0 (pc2 := 48) dJ6_bitCount_0f7a4_47 rfl rfl (by decide) rfl ?_
  refine xj_iload_n (pc2 := 49) dJ6_bitCount_0f7a4_48 rfl rfl rfl ?_
  refine xj_bipush (pc2 := 51) dJ6_bitCount_0f7a4_49 rfl (by decide) ?_
  refine xj_iand (pc2 := 52) dJ6_bitCount_0f7a4_51 rfl ?_
  refine xj_iret dJ6_bitCount_0f7a4_52 rfl ?_
  exact q_eq (pop_ok ha) hq
