/-! the model: odds -/
def lk (t : Int) (y : Nat) : Nat → Int
  | 0 => 1
  | k + 1 => lk t y k * (if memb y k then t else 10 - t)
theorem ssum_app (f : Nat → Int) (a : Nat) : ∀ b, ssum f (a + b) = ssum f a + ssum (fun i => f (a + i)) b
  | 0 => by simp [ssum]
  | b + 1 => by
    show ssum f (a + b) + f (a + b) = ssum f a + (ssum (fun i => f (a + i)) b + f (a + b))
    rw [ssum_app f a b]
    omega
theorem mb_hi : ∀ n : Fin 8, ∀ x : Fin 256, (x : Nat) < 2 ^ (n : Nat) → (memb (((2 ^ (n : Nat) + (x : Nat) : Nat)) : Int) (n : Nat) = true ∧ memb ((x : Nat) : Int) (n : Nat) = false ∧ pc (((2 ^ (n : Nat) + (x : Nat) : Nat)) : Int) = pc ((x : Nat) : Int) + 1 ∧ ∀ j : Fin 8, (j : Nat) < (n : Nat) → memb (((2 ^ (n : Nat) + (x : Nat) : Nat)) : Int) (j : Nat) = memb ((x : Nat) : Int) (j : Nat)) := by decide +kernel
theorem pow8 {n : Nat} (h : n < 8) : 2 ^ n ≤ 128 := Nat.le_trans (Nat.pow_le_pow_right (by decide) (show n ≤ 7 by omega)) (by decide)
theorem mb_hi2 {n y : Nat} (hn : n < 8) (hy : y < 2 ^ n) : memb ((2 ^ n + y : Nat) : Int) n = true ∧ memb (y : Int) n = false ∧ pc ((2 ^ n + y : Nat) : Int) = pc (y : Int) + 1 ∧ ∀ j : Nat, j < n → memb ((2 ^ n + y : Nat) : Int) j = memb (y : Int) j := by
  have hp := pow8 hn
  obtain ⟨a, b, c, d⟩ := mb_hi ⟨n, hn⟩ ⟨y, by omega⟩ hy
  exact ⟨a, b, c, fun j hj => d ⟨j, by omega⟩ hj⟩
theorem lk_lo {t : Int} {n y : Nat} (hn : n < 8) (hy : y < 2 ^ n) : lk t y (n + 1) = (10 - t) * lk t y n := by
  rw [lk, (mb_hi2 hn hy).2.1, Int.mul_comm]
  rfl
theorem lk_sm {t : Int} {n y : Nat} (hn : n < 8) (hy : y < 2 ^ n) : ∀ j, j ≤ n → lk t (2 ^ n + y) j = lk t y j
  | 0, _ => rfl
  | j + 1, hj => by
    rw [lk, lk, lk_sm hn hy j (by omega), (mb_hi2 hn hy).2.2.2 j (by omega)]
theorem lk_hi {t : Int} {n y : Nat} (hn : n < 8) (hy : y < 2 ^ n) : lk t (2 ^ n + y) (n + 1) = t * lk t y n := by
  rw [lk, (mb_hi2 hn hy).1, lk_sm hn hy n (Nat.le_refl _), Int.mul_comm]
  rfl
theorem sumK {t : Int} : ∀ (n : Nat), n ≤ 8 → ∀ f : Nat → Int, ssum (fun y => f (pc (y : Nat)).toNat * lk t y n) (2 ^ n) = BB t n f
  | 0, _, f => by
    show 0 + f (pc 0).toNat * 1 = ssum (fun a => f a * wz t 0 a) 1
    show 0 + f 0 * 1 = 0 + f 0 * wz t 0 0
    simp [wz]
  | n + 1, hn, f => by
    rw [BB_succ, ← sumK n (by omega) f, ← sumK n (by omega) (fun a => f (a + 1)), show 2 ^ (n + 1) = 2 ^ n + 2 ^ n by rw [Nat.pow_succ]; omega, ssum_app, ← ssum_mul, ← ssum_mul]
    congr 1
    · refine ssum_congr _ (fun y hy => ?_)
      rw [lk_lo (by omega) hy]
      rw [Int.mul_left_comm]
    · refine ssum_congr _ (fun y hy => ?_)
      have hp := pc_rg (x := (y : Int))
      rw [lk_hi (by omega) hy, (mb_hi2 (by omega) hy).2.2.1, show (pc (y : Int) + 1).toNat = (pc (y : Int)).toNat + 1 by omega]
      rw [Int.mul_left_comm]
def odF (S : Sh) (w t : Int) (n : Nat) : Nat → Int := fun y => if 15 ≤ moodZ S w (bsum (heldP S w) (nG S)) (pc (y : Nat)) then lk t y n else 0
theorem odF_sum {S : Sh} {w t : Int} {n : Nat} (hn : n ≤ 8) : ssum (odF S w t n) (2 ^ n) = oddA S w n t := by
  unfold oddA
  rw [← sumK n hn (oddP S w)]
  refine ssum_congr _ (fun y hy => ?_)
  have hp := pc_rg (x := (y : Int))
  unfold odF oddP
  rw [show (((pc (y : Int)).toNat : Nat) : Int) = pc (y : Int) by omega]
  have hd : doz (moodZ S w (bsum (heldP S w) (nG S)) (pc (y : Int))) = 1 ↔ 15 ≤ moodZ S w (bsum (heldP S w) (nG S)) (pc (y : Int)) := by
    unfold doz
    constructor
    · intro q; (repeat' split at q) <;> omega
    · intro q; rw [if_neg (by omega), if_neg (by omega)]
  by_cases q : 15 ≤ moodZ S w (bsum (heldP S w) (nG S)) (pc (y : Int))
  · rw [if_pos q, if_pos (hd.mpr q), Int.one_mul]
  · rw [if_neg q, if_neg (fun z => q (hd.mp z)), Int.zero_mul]
theorem c_X7_oddsNow {S : Sh} {w t x : Int} {n : Nat} {h : Hp} {Q : Int → Hp → Prop} (hM : RM S h) (hW : WF S) (hw0 : 0 ≤ w ∧ w < S 6 1) (hn8 : 1 ≤ n ∧ n ≤ 8) (ht : 0 ≤ t ∧ t ≤ 10) (hx : 0 ≤ x ∧ x ≤ 1) (hq : Q (if x = 0 then oddA S w n t / gcz (oddA S w n t) (10 ^ n) else 10 ^ n / gcz (oddA S w n t) (10 ^ n)) h) : CJ 4 kX7_oddsNow [.ref 9, vi w, vi n, vi t, vi x] h Q := by
  have hnn := wf_n hW
  have hng := nG_eq hW
  have ho := bsum_le6 (p := heldP S w) (n := nG S) (by omega)
  have hp10 := pow10 (n := n) (by omega)
  have hor := oddA_rg (S := S) (w := w) (t := t) (n := n) (by omega) ht
  have hgz := gcz_rg (a := oddA S w n t) (b := 10 ^ n) hor.1 (by omega)
  obtain ⟨N, hN2⟩ : ∃ N : Nat, N = 2 ^ n := ⟨_, rfl⟩
  have hN : N ≤ 256 := by rw [hN2]; exact Nat.le_trans (Nat.pow_le_pow_right (by decide) hn8.2) (by decide)
  have hN3 : bshl 1 (n : Int) = (N : Int) := by rw [bshl_one (by omega), hN2]; simp
  have hsum : ssum (odF S w t n) N = oddA S w n t := by rw [hN2]; exact odF_sum (by omega)
  generalize hTT : (10 : Int) ^ n = TT at hq hp10 hor hgz
  refine cj_of (lo := [some (.ref 9), some (vi w), some (vi n), some (vi t), some (vi x), none, none, none, none, none, none]) mok_X7_oddsNow (fun _ => rfl) (fun _ => Nat.le_of_ble_eq_true rfl) ?_
  refine xj_aload_n (pc2 := 1) dX7_oddsNow_0 rfl rfl rfl ?_
  refine xj_iload_n (pc2 := 2) dX7_oddsNow_1 rfl rfl rfl ?_
  refine xj_V1I (pc2 := 5) (d2 := 0) mok_X7_wornBy ml_X7_146 ima_yX7_wornBy sel_yX7_wornBy rfl rfl dX7_oddsNow_2 rfl rfl (by decide) (by decide) (Nat.le_of_ble_eq_true rfl) (fun _ => rfl) ?_
  refine c_X7_wornBy hM hW (by omega) ?_
  refine xj_istore5 (pc2 := 7) dX7_oddsNow_5 rfl (by decide) rfl ?_
  refine xj_iconst (pc2 := 8) dX7_oddsNow_7 rfl ?_
  refine xj_istore6 (pc2 := 10) dX7_oddsNow_8 rfl (by decide) rfl ?_
  refine xj_iconst (pc2 := 11) dX7_oddsNow_10 rfl ?_
  refine xj_istore7 (pc2 := 13) dX7_oddsNow_11 rfl (by decide) rfl ?_
  refine xj_iconst (pc2 := 14) dX7_oddsNow_13 rfl ?_
  refine xj_istore8 (pc2 := 16) dX7_oddsNow_14 rfl (by decide) rfl ?_
  refine down (P := fun j => XJ none 4 kX7_oddsNow h 16 [some (.ref 9), some (vi w), some (vi n), some (vi t), some (vi x), some (vi (bsum (heldP S w) (nG S))), some (vi 0), some (vi (10 ^ j)), some (vi j), none, none] [] Q) (n := n) ?_ ?_
  rotate_left
  · intro j hj ih
    rw [Int.pow_succ] at ih
    refine xj_iload (pc2 := 18) dX7_oddsNow_16 rfl rfl ?_
    refine xj_iload_n (pc2 := 19) dX7_oddsNow_18 rfl rfl rfl ?_
    refine xj_cmp_ge (pc2 := 22) (tgt := 35) dX7_oddsNow_19 rfl rfl (by omega) (by omega) (fun c_19 => by exfalso; omega) (fun c_19 => ?_)
    refine xj_iload (pc2 := 24) dX7_oddsNow_22 rfl rfl ?_
    refine xj_bipush (pc2 := 26) dX7_oddsNow_24 rfl (by decide) ?_
    refine xj_imul (pc2 := 27) dX7_oddsNow_26 rfl ?_
    refine xj_istore7 (pc2 := 29) dX7_oddsNow_27 rfl (by decide) rfl ?_
    refine xj_iinc8 (pc2 := 32) dX7_oddsNow_29 rfl (by decide) rfl ?_
    refine xj_goto (tgt := 16) dX7_oddsNow_32 rfl ?_
    exact ih
  rw [hTT]
  refine xj_iload (pc2 := 18) dX7_oddsNow_16 rfl rfl ?_
  refine xj_iload_n (pc2 := 19) dX7_oddsNow_18 rfl rfl rfl ?_
  refine xj_cmp_ge (pc2 := 22) (tgt := 35) dX7_oddsNow_19 rfl rfl (by omega) (by omega) (fun c_19 => ?_) (fun c_19 => by exfalso; omega)
  refine xj_iconst (pc2 := 36) dX7_oddsNow_35 rfl ?_
  refine xj_istore8 (pc2 := 38) dX7_oddsNow_36 rfl (by decide) rfl ?_
  refine down (P := fun y => XJ none 4 kX7_oddsNow h 38 [some (.ref 9), some (vi w), some (vi n), some (vi t), some (vi x), some (vi (bsum (heldP S w) (nG S))), some (vi (ssum (odF S w t n) y)), some (vi TT), some (vi y), none, none] [] Q) (n := N) ?_ ?_
  · rw [hsum]
    generalize oddA S w n t = AA at hq hor hgz ⊢
    refine xj_iload (pc2 := 40) dX7_oddsNow_38 rfl rfl ?_
    refine xj_iconst (pc2 := 41) dX7_oddsNow_40 rfl ?_
    refine xj_iload_n (pc2 := 42) dX7_oddsNow_41 rfl rfl rfl ?_
    refine xj_ishl (pc2 := 43) dX7_oddsNow_42 rfl ?_
    rw [hN3]
    refine xj_cmp_ge (pc2 := 46) (tgt := 121) dX7_oddsNow_43 rfl rfl (by omega) (by omega) (fun c_43 => ?_) (fun c_43 => by exfalso; omega)
    refine xj_iload (pc2 := 123) dX7_oddsNow_121 rfl rfl ?_
    refine xj_iload (pc2 := 125) dX7_oddsNow_123 rfl rfl ?_
    refine xj_S2I (pc2 := 128) (d2 := 0) mok_X7_divisor ml_X7_233 sta_yX7_divisor dX7_oddsNow_125 rfl rfl (by decide) (by decide) (Nat.le_of_ble_eq_true rfl) (fun _ => rfl) ?_
    refine c_X7_divisor (by omega) (by omega) ?_
    refine xj_istore8 (pc2 := 130) dX7_oddsNow_128 rfl (by decide) rfl ?_
    refine xj_iload (pc2 := 132) dX7_oddsNow_130 rfl rfl ?_
    refine xj_if_ne (pc2 := 135) (tgt := 143) dX7_oddsNow_132 rfl rfl (by omega) (fun c_132 => ?_) (fun c_132 => ?_)
    · -- 143
      refine xj_iload (pc2 := 145) dX7_oddsNow_143 rfl rfl ?_
      refine xj_iload (pc2 := 147) dX7_oddsNow_145 rfl rfl ?_
      refine xj_idiv (pc2 := 148) dX7_oddsNow_147 rfl (by omega) (by omega) ?_
      refine xj_iret dX7_oddsNow_148 rfl ?_
      first
      | (rw [if_pos c_132] at hq; exact hq)
      | (rw [if_neg c_132] at hq; exact hq)
    · -- 135
      refine xj_iload (pc2 := 137) dX7_oddsNow_135 rfl rfl ?_
      refine xj_iload (pc2 := 139) dX7_oddsNow_137 rfl rfl ?_
      refine xj_idiv (pc2 := 140) dX7_oddsNow_139 rfl (by omega) (by omega) ?_
      refine xj_goto (tgt := 148) dX7_oddsNow_140 rfl ?_
      refine xj_iret dX7_oddsNow_148 rfl ?_
      first
      | (rw [if_pos c_132] at hq; exact hq)
      | (rw [if_neg c_132] at hq; exact hq)
  · intro y hy ih
    have hp := pc_rg (x := (y : Int))
    have hmz := moodZ_rg hW (b := bsum (heldP S w) (nG S)) (m := pc (y : Int)) hw0 hp.1
    have es : ssum (odF S w t n) (y + 1) = ssum (odF S w t n) y + odF S w t n y := rfl
    rw [es] at ih
    refine xj_iload (pc2 := 40) dX7_oddsNow_38 rfl rfl ?_
    refine xj_iconst (pc2 := 41) dX7_oddsNow_40 rfl ?_
    refine xj_iload_n (pc2 := 42) dX7_oddsNow_41 rfl rfl rfl ?_
    refine xj_ishl (pc2 := 43) dX7_oddsNow_42 rfl ?_
    rw [hN3]
    refine xj_cmp_ge (pc2 := 46) (tgt := 121) dX7_oddsNow_43 rfl rfl (by omega) (by omega) (fun c_43 => by exfalso; omega) (fun c_43 => ?_)
    refine xj_iconst (pc2 := 47) dX7_oddsNow_46 rfl ?_
    refine xj_istore9 (pc2 := 49) dX7_oddsNow_47 rfl (by decide) rfl ?_
    refine xj_iconst (pc2 := 50) dX7_oddsNow_49 rfl ?_
    refine xj_istore10 (pc2 := 52) dX7_oddsNow_50 rfl (by decide) rfl ?_
    refine down (P := fun k => XJ none 4 kX7_oddsNow h 52 [some (.ref 9), some (vi w), some (vi n), some (vi t), some (vi x), some (vi (bsum (heldP S w) (nG S))), some (vi (ssum (odF S w t n) y)), some (vi TT), some (vi y), some (vi (lk t y k)), some (vi k)] [] Q) (n := n) ?_ ?_
    · refine xj_iload (pc2 := 54) dX7_oddsNow_52 rfl rfl ?_
      refine xj_iload_n (pc2 := 55) dX7_oddsNow_54 rfl rfl rfl ?_
      refine xj_cmp_ge (pc2 := 58) (tgt := 87) dX7_oddsNow_55 rfl rfl (by omega) (by omega) (fun c_55 => ?_) (fun c_55 => by exfalso; omega)
      refine xj_iload (pc2 := 89) dX7_oddsNow_87 rfl rfl ?_
      refine xj_aload_n (pc2 := 90) dX7_oddsNow_89 rfl rfl rfl ?_
      refine xj_iload_n (pc2 := 91) dX7_oddsNow_90 rfl rfl rfl ?_
      refine xj_iload (pc2 := 93) dX7_oddsNow_91 rfl rfl ?_
      refine xj_iload (pc2 := 95) dX7_oddsNow_93 rfl rfl ?_
      refine xj_S1I (pc2 := 98) (d2 := 0) mok_X7_size ml_X7_194 sta_yX7_size dX7_oddsNow_95 rfl rfl (by decide) (by decide) (Nat.le_of_ble_eq_true rfl) (fun _ => rfl) ?_
      refine c_X7_size (by omega) ?_
      refine xj_V3I (pc2 := 101) (d2 := 3) mok_X7_moodWith ml_X7_149 ima_yX7_moodWith sel_yX7_moodWith rfl rfl dX7_oddsNow_98 rfl rfl (by decide) (by decide) (Nat.le_of_ble_eq_true rfl) (fun _ => rfl) ?_
      refine c_X7_moodWith hM hW (by omega) (by omega) (by omega) ?_
      refine xj_bipush (pc2 := 103) dX7_oddsNow_101 rfl (by decide) ?_
      refine xj_cmp_lt (pc2 := 106) (tgt := 111) dX7_oddsNow_103 rfl rfl (by omega) (by omega) (fun c_103 => ?_) (fun c_103 => ?_)
      · -- 111
        refine xj_iconst (pc2 := 112) dX7_oddsNow_111 rfl ?_
        refine xj_iadd (pc2 := 113) dX7_oddsNow_112 rfl ?_
        refine xj_istore6 (pc2 := 115) dX7_oddsNow_113 rfl (by decide) rfl ?_
        refine xj_iinc8 (pc2 := 118) dX7_oddsNow_115 rfl (by decide) rfl ?_
        refine xj_goto (tgt := 38) dX7_oddsNow_118 rfl ?_
        first
        | (rw [show odF S w t n y = lk t y n by unfold odF; rw [if_pos (by omega)]] at ih; exact xj_sub (by repeat (first | exact subL_nil | apply subL_none | apply subL_some rfl)) ih)
        | (rw [show odF S w t n y = 0 by unfold odF; rw [if_neg (by omega)]] at ih; exact xj_sub (by repeat (first | exact subL_nil | apply subL_none | apply subL_some rfl)) ih)
      · -- 106
        refine xj_iload (pc2 := 108) dX7_oddsNow_106 rfl rfl ?_
        refine xj_goto (tgt := 112) dX7_oddsNow_108 rfl ?_
        refine xj_iadd (pc2 := 113) dX7_oddsNow_112 rfl ?_
        refine xj_istore6 (pc2 := 115) dX7_oddsNow_113 rfl (by decide) rfl ?_
        refine xj_iinc8 (pc2 := 118) dX7_oddsNow_115 rfl (by decide) rfl ?_
        refine xj_goto (tgt := 38) dX7_oddsNow_118 rfl ?_
        first
        | (rw [show odF S w t n y = lk t y n by unfold odF; rw [if_pos (by omega)]] at ih; exact xj_sub (by repeat (first | exact subL_nil | apply subL_none | apply subL_some rfl)) ih)
        | (rw [show odF S w t n y = 0 by unfold odF; rw [if_neg (by omega)]] at ih; exact xj_sub (by repeat (first | exact subL_nil | apply subL_none | apply subL_some rfl)) ih)
    · intro k hk ihk
      rw [lk] at ihk
      refine xj_iload (pc2 := 54) dX7_oddsNow_52 rfl rfl ?_
      refine xj_iload_n (pc2 := 55) dX7_oddsNow_54 rfl rfl rfl ?_
      refine xj_cmp_ge (pc2 := 58) (tgt := 87) dX7_oddsNow_55 rfl rfl (by omega) (by omega) (fun c_55 => by exfalso; omega) (fun c_55 => ?_)
      refine xj_iload (pc2 := 60) dX7_oddsNow_58 rfl rfl ?_
      refine xj_iload (pc2 := 62) dX7_oddsNow_60 rfl rfl ?_
      refine xj_iload (pc2 := 64) dX7_oddsNow_62 rfl rfl ?_
      refine xj_S2I (pc2 := 67) (d2 := 0) mok_X7_isIn ml_X7_139 sta_yX7_isIn dX7_oddsNow_64 rfl rfl (by decide) (by decide) (Nat.le_of_ble_eq_true rfl) (fun _ => rfl) ?_
      refine c_X7_isIn (by omega) (by omega) ?_ ?_
      · -- X7_isIn = 1
        intro c_64
        refine xj_if_eq (pc2 := 70) (tgt := 74) dX7_oddsNow_67 rfl rfl (by omega) (fun c_67 => absurd c_67 (by decide)) (fun c_67 => ?_)
        refine xj_iload_n (pc2 := 71) dX7_oddsNow_70 rfl rfl rfl ?_
        refine xj_goto (tgt := 78) dX7_oddsNow_71 rfl ?_
        refine xj_imul (pc2 := 79) dX7_oddsNow_78 rfl ?_
        refine xj_istore9 (pc2 := 81) dX7_oddsNow_79 rfl (by decide) rfl ?_
        refine xj_iinc10 (pc2 := 84) dX7_oddsNow_81 rfl (by decide) rfl ?_
        refine xj_goto (tgt := 52) dX7_oddsNow_84 rfl ?_
        first
        | (rw [if_pos (memb_iff.mpr c_64)] at ihk; exact ihk)
        | (rw [if_neg (fun q => c_64 (memb_iff.mp q))] at ihk; exact ihk)
      · -- X7_isIn = 0
        intro c_64
        refine xj_if_eq (pc2 := 70) (tgt := 74) dX7_oddsNow_67 rfl rfl (by omega) (fun c_67 => ?_) (fun c_67 => absurd c_67 (by decide))
        refine xj_bipush (pc2 := 76) dX7_oddsNow_74 rfl (by decide) ?_
        refine xj_iload_n (pc2 := 77) dX7_oddsNow_76 rfl rfl rfl ?_
        refine xj_isub (pc2 := 78) dX7_oddsNow_77 rfl ?_
        refine xj_imul (pc2 := 79) dX7_oddsNow_78 rfl ?_
        refine xj_istore9 (pc2 := 81) dX7_oddsNow_79 rfl (by decide) rfl ?_
        refine xj_iinc10 (pc2 := 84) dX7_oddsNow_81 rfl (by decide) rfl ?_
        refine xj_goto (tgt := 52) dX7_oddsNow_84 rfl ?_
        first
        | (rw [if_pos (memb_iff.mpr c_64)] at ihk; exact ihk)
        | (rw [if_neg (fun q => c_64 (memb_iff.mp q))] at ihk; exact ihk)
theorem c_X7_odds {S : Sh} {w n t x : Int} {h : Hp} {Q : Int → Hp → Prop} (hM : RM S h) (hW : WF S) (hw0 : -2147483648 ≤ w ∧ w ≤ 2147483647) (hn0 : -2147483648 ≤ n ∧ n ≤ 2147483647) (ht0 : -2147483648 ≤ t ∧ t ≤ 2147483647) (hx : -2147483648 ≤ x ∧ x ≤ 2147483647) (hq : Q (oddsZ S w n t x) h) : CJ 5 kX7_odds [.ref 9, vi w, vi n, vi t, vi x] h Q := by
  have hnn := wf_n hW
  unfold oddsZ at hq
  refine cj_of (lo := [some (.ref 9), some (vi w), some (vi n), some (vi t), some (vi x), none]) mok_X7_odds (fun _ => rfl) (fun _ => Nat.le_of_ble_eq_true rfl) ?_
  refine xj_aload_n (pc2 := 1) dX7_odds_0 rfl rfl rfl ?_
  refine xj_iload_n (pc2 := 2) dX7_odds_1 rfl rfl rfl ?_
  refine xj_V1I (pc2 := 5) (d2 := 1) mok_X7_isWearer ml_X7_182 ima_yX7_isWearer sel_yX7_isWearer rfl rfl dX7_odds_2 rfl rfl (by decide) (by decide) (Nat.le_of_ble_eq_true rfl) (fun _ => rfl) ?_
  refine c_X7_isWearer hM hW (by omega) ?_ ?_
  · -- X7_isWearer = 1
    intro c_2
    refine xj_if_ne (pc2 := 8) (tgt := 11) dX7_odds_5 rfl rfl (by omega) (fun c_5 => ?_) (fun c_5 => absurd c_5 (by decide))
    refine xj_iload_n (pc2 := 12) dX7_odds_11 rfl rfl rfl ?_
    refine xj_iconst (pc2 := 13) dX7_odds_12 rfl ?_
    refine xj_bipush (pc2 := 15) dX7_odds_13 rfl (by decide) ?_
    refine xj_S3I (pc2 := 18) (d2 := 0) mok_X7_within ml_X7_77 sta_yX7_within dX7_odds_15 rfl rfl (by decide) (by decide) (Nat.le_of_ble_eq_true rfl) (fun _ => rfl) ?_
    refine c_X7_within (by omega) (by omega) (by omega) ?_ ?_
    · -- X7_within = 1
      intro c_15
      refine xj_if_eq (pc2 := 21) (tgt := 45) dX7_odds_18 rfl rfl (by omega) (fun c_18 => absurd c_18 (by decide)) (fun c_18 => ?_)
      refine xj_iload_n (pc2 := 22) dX7_odds_21 rfl rfl rfl ?_
      refine xj_iconst (pc2 := 23) dX7_odds_22 rfl ?_
      refine xj_bipush (pc2 := 25) dX7_odds_23 rfl (by decide) ?_
      refine xj_S3I (pc2 := 28) (d2 := 0) mok_X7_within ml_X7_77 sta_yX7_within dX7_odds_25 rfl rfl (by decide) (by decide) (Nat.le_of_ble_eq_true rfl) (fun _ => rfl) ?_
      refine c_X7_within (by omega) (by omega) (by omega) ?_ ?_
      · -- X7_within = 1
        intro c_25
        refine xj_if_eq (pc2 := 31) (tgt := 45) dX7_odds_28 rfl rfl (by omega) (fun c_28 => absurd c_28 (by decide)) (fun c_28 => ?_)
        refine xj_iload (pc2 := 33) dX7_odds_31 rfl rfl ?_
        refine xj_iconst (pc2 := 34) dX7_odds_33 rfl ?_
        refine xj_iconst (pc2 := 35) dX7_odds_34 rfl ?_
        refine xj_S3I (pc2 := 38) (d2 := 0) mok_X7_within ml_X7_77 sta_yX7_within dX7_odds_35 rfl rfl (by decide) (by decide) (Nat.le_of_ble_eq_true rfl) (fun _ => rfl) ?_
        refine c_X7_within (by omega) (by omega) (by omega) ?_ ?_
        · -- X7_within = 1
          intro c_35
          refine xj_if_eq (pc2 := 41) (tgt := 45) dX7_odds_38 rfl rfl (by omega) (fun c_38 => absurd c_38 (by decide)) (fun c_38 => ?_)
          refine xj_iconst (pc2 := 42) dX7_odds_41 rfl ?_
          refine xj_goto (tgt := 46) dX7_odds_42 rfl ?_
          refine xj_istore5 (pc2 := 48) dX7_odds_46 rfl (by decide) rfl ?_
          refine xj_iload (pc2 := 50) dX7_odds_48 rfl rfl ?_
          refine xj_if_eq (pc2 := 53) (tgt := 65) dX7_odds_50 rfl rfl (by omega) (fun c_50 => absurd c_50 (by decide)) (fun c_50 => ?_)
          refine xj_aload_n (pc2 := 54) dX7_odds_53 rfl rfl rfl ?_
          refine xj_iload_n (pc2 := 55) dX7_odds_54 rfl rfl rfl ?_
          refine xj_iload_n (pc2 := 56) dX7_odds_55 rfl rfl rfl ?_
          refine xj_iload_n (pc2 := 57) dX7_odds_56 rfl rfl rfl ?_
          refine xj_iload (pc2 := 59) dX7_odds_57 rfl rfl ?_
          refine xj_V4I (pc2 := 62) (d2 := 4) mok_X7_oddsNow ml_X7_236 ima_yX7_oddsNow sel_yX7_oddsNow rfl rfl dX7_odds_59 rfl rfl (by decide) (by decide) (Nat.le_of_ble_eq_true rfl) (fun _ => rfl) ?_
          rw [show (n : Int) = ((n.toNat : Nat) : Int) by omega]
          refine c_X7_oddsNow hM hW c_2 (by omega) c_25 c_35 ?_
          refine xj_goto (tgt := 67) dX7_odds_62 rfl ?_
          refine xj_iret dX7_odds_67 rfl ?_
          first
          | (rw [if_pos c_2] at hq; exact hq)
          | (rw [if_neg (fun q => q c_2), if_neg (fun q => q ⟨c_15, c_25, c_35⟩)] at hq; exact hq)
          | (rw [if_neg (fun q => q c_2), if_pos (by omega)] at hq; exact hq)
        · -- X7_within = 0
          intro c_35
          refine xj_if_eq (pc2 := 41) (tgt := 45) dX7_odds_38 rfl rfl (by omega) (fun c_38 => ?_) (fun c_38 => absurd c_38 (by decide))
          refine xj_iconst (pc2 := 46) dX7_odds_45 rfl ?_
          refine xj_istore5 (pc2 := 48) dX7_odds_46 rfl (by decide) rfl ?_
          refine xj_iload (pc2 := 50) dX7_odds_48 rfl rfl ?_
          refine xj_if_eq (pc2 := 53) (tgt := 65) dX7_odds_50 rfl rfl (by omega) (fun c_50 => ?_) (fun c_50 => absurd c_50 (by decide))
          refine xj_bipush (pc2 := 67) dX7_odds_65 rfl (by decide) ?_
          refine xj_iret dX7_odds_67 rfl ?_
          first
          | (rw [if_pos c_2] at hq; exact hq)
          | (rw [if_neg (fun q => q c_2), if_neg (fun q => q ⟨c_15, c_25, c_35⟩)] at hq; exact hq)
          | (rw [if_neg (fun q => q c_2), if_pos (by omega)] at hq; exact hq)
      · -- X7_within = 0
        intro c_25
        refine xj_if_eq (pc2 := 31) (tgt := 45) dX7_odds_28 rfl rfl (by omega) (fun c_28 => ?_) (fun c_28 => absurd c_28 (by decide))
        refine xj_iconst (pc2 := 46) dX7_odds_45 rfl ?_
        refine xj_istore5 (pc2 := 48) dX7_odds_46 rfl (by decide) rfl ?_
        refine xj_iload (pc2 := 50) dX7_odds_48 rfl rfl ?_
        refine xj_if_eq (pc2 := 53) (tgt := 65) dX7_odds_50 rfl rfl (by omega) (fun c_50 => ?_) (fun c_50 => absurd c_50 (by decide))
        refine xj_bipush (pc2 := 67) dX7_odds_65 rfl (by decide) ?_
        refine xj_iret dX7_odds_67 rfl ?_
        first
        | (rw [if_pos c_2] at hq; exact hq)
        | (rw [if_neg (fun q => q c_2), if_neg (fun q => q ⟨c_15, c_25, c_35⟩)] at hq; exact hq)
        | (rw [if_neg (fun q => q c_2), if_pos (by omega)] at hq; exact hq)
    · -- X7_within = 0
      intro c_15
      refine xj_if_eq (pc2 := 21) (tgt := 45) dX7_odds_18 rfl rfl (by omega) (fun c_18 => ?_) (fun c_18 => absurd c_18 (by decide))
      refine xj_iconst (pc2 := 46) dX7_odds_45 rfl ?_
      refine xj_istore5 (pc2 := 48) dX7_odds_46 rfl (by decide) rfl ?_
      refine xj_iload (pc2 := 50) dX7_odds_48 rfl rfl ?_
      refine xj_if_eq (pc2 := 53) (tgt := 65) dX7_odds_50 rfl rfl (by omega) (fun c_50 => ?_) (fun c_50 => absurd c_50 (by decide))
      refine xj_bipush (pc2 := 67) dX7_odds_65 rfl (by decide) ?_
      refine xj_iret dX7_odds_67 rfl ?_
      first
      | (rw [if_pos c_2] at hq; exact hq)
      | (rw [if_neg (fun q => q c_2), if_neg (fun q => q ⟨c_15, c_25, c_35⟩)] at hq; exact hq)
      | (rw [if_neg (fun q => q c_2), if_pos (by omega)] at hq; exact hq)
  · -- X7_isWearer = 0
    intro c_2
    refine xj_if_ne (pc2 := 8) (tgt := 11) dX7_odds_5 rfl rfl (by omega) (fun c_5 => absurd c_5 (by decide)) (fun c_5 => ?_)
    refine xj_bipush (pc2 := 10) dX7_odds_8 rfl (by decide) ?_
    refine xj_iret dX7_odds_10 rfl ?_
    first
    | (rw [if_pos c_2] at hq; exact hq)
    | (rw [if_neg (fun q => q c_2), if_neg (fun q => q ⟨c_15, c_25, c_35⟩)] at hq; exact hq)
    | (rw [if_neg (fun q => q c_2), if_pos (by omega)] at hq; exact hq)
