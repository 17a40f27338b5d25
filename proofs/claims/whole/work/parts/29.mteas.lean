/-! the model: teas -/
theorem i64_bv (n : Nat) (h : n < 2 ^ 63) : (Int64.ofInt (n : Int)).toBitVec.toNat = n := by
  rw [Int64.toBitVec_ofInt, BitVec.ofInt_natCast, BitVec.toNat_ofNat, Nat.mod_eq_of_lt (by omega)]
theorem i64_int {x : Int64} {n : Nat} (h : x.toBitVec.toNat = n) (hn : n < 2 ^ 63) : x.toInt = n := by
  show x.toBitVec.toInt = n
  rw [BitVec.toInt_eq_toNat_of_lt (by rw [h]; omega), h]
theorem bandl_nat {a b : Nat} (ha : a < 2 ^ 63) (hb : b < 2 ^ 63) : bandl a b = ((a &&& b : Nat) : Int) := by
  unfold bandl
  apply i64_int
  · rw [Int64.toBitVec_and, BitVec.toNat_and, i64_bv a ha, i64_bv b hb]
  · exact Nat.and_lt_two_pow _ hb
theorem bandl_mask {x : Int} (h0 : 0 ≤ x) (h1 : x < 9223372036854775808) : bandl x 2147483647 = x % 2147483648 := by
  obtain ⟨n, rfl⟩ := Int.eq_ofNat_of_zero_le h0
  have h := bandl_nat (a := n) (b := 2147483647) (by omega) (by decide)
  rw [show (2147483647 : Nat) = 2 ^ 31 - 1 from rfl, Nat.and_two_pow_sub_one_eq_mod] at h
  rw [show ((2 ^ 31 - 1 : Nat) : Int) = 2147483647 from rfl] at h
  rw [h]
  omega
theorem c_X7_draw {s d : Int} {h : Hp} {Q : Int → Hp → Prop} (hs : h 9 22 = s) (hs0 : 0 ≤ s ∧ s ≤ 2147483647) (hd : 0 < d ∧ d ≤ 100) (hq : Q (drw s d) (hset h 9 22 (sdz s))) : CJ 0 kX7_draw [.ref 9, vi d] h Q := by
  have hz := sdz_rg s
  have e : bandl (1103515245 * s + 12345) 2147483647 = sdz s := bandl_mask (by omega) (by omega)
  refine cj_of (lo := [some (.ref 9), some (vi d)]) mok_X7_draw (fun _ => rfl) (fun _ => Nat.le_of_ble_eq_true rfl) ?_
  refine xj_aload_n (pc2 := 1) dX7_draw_0 rfl rfl rfl ?_
  refine xj_ldc2 (pc2 := 4) (n := 1103515245) dX7_draw_1 rfl k_X7_243 rfl ?_
  refine xj_aload_n (pc2 := 5) dX7_draw_4 rfl rfl rfl ?_
  refine xj_getJ (pc2 := 8) (kz := 22) fok_X7_245 dX7_draw_5 rfl rfl rfl rfl rfl (by first | assumption | rfl) ?_
  refine xj_lmul (pc2 := 9) dX7_draw_8 rfl ?_
  refine xj_ldc2 (pc2 := 12) (n := 12345) dX7_draw_9 rfl k_X7_249 rfl ?_
  refine xj_ladd (pc2 := 13) dX7_draw_12 rfl ?_
  refine xj_ldc2 (pc2 := 16) (n := 2147483647) dX7_draw_13 rfl k_X7_251 rfl ?_
  refine xj_land (pc2 := 17) dX7_draw_16 rfl ?_
  rw [e]
  refine xj_putJ (pc2 := 20) (kz := 22) fok_X7_245 dX7_draw_17 rfl rfl rfl rfl rfl ?_
  refine xj_aload_n (pc2 := 21) dX7_draw_20 rfl rfl rfl ?_
  refine xj_getJ (pc2 := 24) (kz := 22) fok_X7_245 dX7_draw_21 rfl rfl rfl rfl rfl (hset_eq _ _ _ _) ?_
  refine xj_ldc2 (pc2 := 27) (n := 65536) dX7_draw_24 rfl k_X7_253 rfl ?_
  refine xj_ldiv (pc2 := 28) dX7_draw_27 rfl (by omega) (by omega) ?_
  refine xj_iload_n (pc2 := 29) dX7_draw_28 rfl rfl rfl ?_
  refine xj_i2l (pc2 := 30) dX7_draw_29 rfl (by omega) ?_
  refine xj_lrem (pc2 := 31) dX7_draw_30 rfl (by omega) (by omega) ?_
  refine xj_l2i (pc2 := 32) dX7_draw_31 rfl ?_
  refine xj_iret dX7_draw_32 rfl ?_
  exact hq
theorem c_X7_butting {S : Sh} {h : Hp} {Q : Int → Hp → Prop} (hM : RM S h) (hW : WF S) (hq : Q (cntz (doP S 1) (nW S)) h) : CJ 5 kX7_butting [.ref 9] h Q := by
  obtain ⟨⟨hn, hw, hh, hs⟩, mG, mN, mE⟩ := id hM
  have hnn := wf_n hW
  have hnw := nW_eq hW
  refine cj_of (lo := [some (.ref 9), none, none]) mok_X7_butting (fun _ => rfl) (fun _ => Nat.le_of_ble_eq_true rfl) ?_
  refine xj_iconst (pc2 := 1) dX7_butting_0 rfl ?_
  refine xj_istore1 (pc2 := 2) dX7_butting_1 rfl rfl (by decide) rfl ?_
  refine xj_iconst (pc2 := 3) dX7_butting_2 rfl ?_
  refine xj_istore2 (pc2 := 4) dX7_butting_3 rfl rfl (by decide) rfl ?_
  refine down (P := fun j => XJ none 5 kX7_butting h 4 [some (.ref 9), some (vi (cntz (doP S 1) j)), some (vi j)] [] Q) (n := nW S) ?_ ?_
  · refine xj_iload_n (pc2 := 5) dX7_butting_4 rfl rfl rfl ?_
    refine xj_aload_n (pc2 := 6) dX7_butting_5 rfl rfl rfl ?_
    refine xj_getI (pc2 := 9) (kz := 2) fok_X7_116 dX7_butting_6 rfl rfl rfl (by decide) rfl (by first | assumption | rfl) ?_
    refine xj_cmp_ge (pc2 := 12) (tgt := 38) dX7_butting_9 rfl rfl (by omega) (by omega) (fun c_9 => ?_) (fun c_9 => by exfalso; omega)
    refine xj_iload_n (pc2 := 39) dX7_butting_38 rfl rfl rfl ?_
    refine xj_iret dX7_butting_39 rfl ?_
    exact hq
  · intro j hj ih
    have hmz : 0 ≤ moodN S j ∧ moodN S j ≤ 66 := moodZ_rg hW (by omega) (by decide)
    have hdz := doz_rg (m := moodN S j)
    have hcr := cntz_rg (q := doP S 1) j
    have es : cntz (doP S 1) (j + 1) = cntz (doP S 1) j + (if doP S 1 j = true then 1 else 0) := rfl
    rw [es] at ih
    refine xj_iload_n (pc2 := 5) dX7_butting_4 rfl rfl rfl ?_
    refine xj_aload_n (pc2 := 6) dX7_butting_5 rfl rfl rfl ?_
    refine xj_getI (pc2 := 9) (kz := 2) fok_X7_116 dX7_butting_6 rfl rfl rfl (by decide) rfl (by first | assumption | rfl) ?_
    refine xj_cmp_ge (pc2 := 12) (tgt := 38) dX7_butting_9 rfl rfl (by omega) (by omega) (fun c_9 => by exfalso; omega) (fun c_9 => ?_)
    refine xj_iload_n (pc2 := 13) dX7_butting_12 rfl rfl rfl ?_
    refine xj_aload_n (pc2 := 14) dX7_butting_13 rfl rfl rfl ?_
    refine xj_iload_n (pc2 := 15) dX7_butting_14 rfl rfl rfl ?_
    refine xj_V1I (pc2 := 18) (d2 := 4) mok_X7_moodNow ml_X7_170 ima_yX7_moodNow sel_yX7_moodNow rfl rfl dX7_butting_15 rfl rfl (by decide) (by decide) (Nat.le_of_ble_eq_true rfl) (fun _ => rfl) ?_
    refine c_X7_moodNow hM hW (by omega) ?_
    refine xj_S1I (pc2 := 21) (d2 := 0) mok_X7_doesBy ml_X7_152 sta_yX7_doesBy dX7_butting_18 rfl rfl (by decide) (by decide) (Nat.le_of_ble_eq_true rfl) (fun _ => rfl) ?_
    refine c_X7_doesBy (by omega) ?_
    refine xj_iconst (pc2 := 22) dX7_butting_21 rfl ?_
    refine xj_cmp_ne (pc2 := 25) (tgt := 29) dX7_butting_22 rfl rfl (by omega) (by omega) (fun c_22 => ?_) (fun c_22 => ?_)
    · -- 29
      refine xj_iconst (pc2 := 30) dX7_butting_29 rfl ?_
      refine xj_iadd (pc2 := 31) dX7_butting_30 rfl ?_
      refine xj_istore1 (pc2 := 32) dX7_butting_31 rfl rfl (by decide) rfl ?_
      refine xj_iinc2 (pc2 := 35) dX7_butting_32 rfl (by decide) rfl ?_
      refine xj_goto (tgt := 4) dX7_butting_35 rfl ?_
      first
      | (rw [if_pos (show doP S 1 j = true from decide_eq_true (by omega))] at ih; exact ih)
      | (rw [if_neg (show ¬ doP S 1 j = true by unfold doP; rw [decide_eq_true_eq]; omega)] at ih; exact ih)
    · -- 25
      refine xj_iconst (pc2 := 26) dX7_butting_25 rfl ?_
      refine xj_goto (tgt := 30) dX7_butting_26 rfl ?_
      refine xj_iadd (pc2 := 31) dX7_butting_30 rfl ?_
      refine xj_istore1 (pc2 := 32) dX7_butting_31 rfl rfl (by decide) rfl ?_
      refine xj_iinc2 (pc2 := 35) dX7_butting_32 rfl (by decide) rfl ?_
      refine xj_goto (tgt := 4) dX7_butting_35 rfl ?_
      first
      | (rw [if_pos (show doP S 1 j = true from decide_eq_true (by omega))] at ih; exact ih)
      | (rw [if_neg (show ¬ doP S 1 j = true by unfold doP; rw [decide_eq_true_eq]; omega)] at ih; exact ih)
theorem c_X7_onHands {S : Sh} {h : Hp} {Q : Int → Hp → Prop} (hM : RM S h) (hW : WF S) (hq : Q (cntz (onP S) (nG S)) h) : CJ 0 kX7_onHands [.ref 9] h Q := by
  obtain ⟨⟨hn, hw, hh, hs⟩, mG, mN, mE⟩ := id hM
  have hnn := wf_n hW
  have hng := nG_eq hW
  refine cj_of (lo := [some (.ref 9), none, none]) mok_X7_onHands (fun _ => rfl) (fun _ => Nat.le_of_ble_eq_true rfl) ?_
  refine xj_iconst (pc2 := 1) dX7_onHands_0 rfl ?_
  refine xj_istore1 (pc2 := 2) dX7_onHands_1 rfl rfl (by decide) rfl ?_
  refine xj_iconst (pc2 := 3) dX7_onHands_2 rfl ?_
  refine xj_istore2 (pc2 := 4) dX7_onHands_3 rfl rfl (by decide) rfl ?_
  refine down (P := fun j => XJ none 0 kX7_onHands h 4 [some (.ref 9), some (vi (cntz (onP S) j)), some (vi j)] [] Q) (n := nG S) ?_ ?_
  · refine xj_iload_n (pc2 := 5) dX7_onHands_4 rfl rfl rfl ?_
    refine xj_aload_n (pc2 := 6) dX7_onHands_5 rfl rfl rfl ?_
    refine xj_getI (pc2 := 9) (kz := 1) fok_X7_113 dX7_onHands_6 rfl rfl rfl (by decide) rfl (by first | assumption | rfl) ?_
    refine xj_cmp_ge (pc2 := 12) (tgt := 36) dX7_onHands_9 rfl rfl (by omega) (by omega) (fun c_9 => ?_) (fun c_9 => by exfalso; omega)
    refine xj_iload_n (pc2 := 37) dX7_onHands_36 rfl rfl rfl ?_
    refine xj_iret dX7_onHands_37 rfl ?_
    exact hq
  · intro j hj ih
    have hwg := wf_g hW (g := (j : Int)) (by omega)
    have hm := hold_m (x := S 3 j) (by omega)
    have es : cntz (onP S) (j + 1) = cntz (onP S) j + (if onP S j = true then 1 else 0) := rfl
    rw [es] at ih
    refine xj_iload_n (pc2 := 5) dX7_onHands_4 rfl rfl rfl ?_
    refine xj_aload_n (pc2 := 6) dX7_onHands_5 rfl rfl rfl ?_
    refine xj_getI (pc2 := 9) (kz := 1) fok_X7_113 dX7_onHands_6 rfl rfl rfl (by decide) rfl (by first | assumption | rfl) ?_
    refine xj_cmp_ge (pc2 := 12) (tgt := 36) dX7_onHands_9 rfl rfl (by omega) (by omega) (fun c_9 => by exfalso; omega) (fun c_9 => ?_)
    refine xj_iload_n (pc2 := 13) dX7_onHands_12 rfl rfl rfl ?_
    refine xj_aload_n (pc2 := 14) dX7_onHands_13 rfl rfl rfl ?_
    refine xj_getRn (pc2 := 17) (c2 := 151) fok_X7_19 dX7_onHands_14 rfl rfl rfl rfl rfl ?_
    refine xj_iload_n (pc2 := 18) dX7_onHands_17 rfl rfl rfl ?_
    refine xj_iald (pc2 := 19) dX7_onHands_18 rfl rfl (by omega) (by omega) (mG _ (by omega) (by omega)).2.2.2 ?_
    refine xj_iconst (pc2 := 20) dX7_onHands_19 rfl ?_
    refine xj_cmp_ne (pc2 := 23) (tgt := 27) dX7_onHands_20 rfl rfl (by omega) (by omega) (fun c_20 => ?_) (fun c_20 => ?_)
    · -- 27
      refine xj_iconst (pc2 := 28) dX7_onHands_27 rfl ?_
      refine xj_iadd (pc2 := 29) dX7_onHands_28 rfl ?_
      refine xj_istore1 (pc2 := 30) dX7_onHands_29 rfl rfl (by decide) rfl ?_
      refine xj_iinc2 (pc2 := 33) dX7_onHands_30 rfl (by decide) rfl ?_
      refine xj_goto (tgt := 4) dX7_onHands_33 rfl ?_
      first
      | (rw [if_pos (show onP S j = true by unfold onP heldP; rw [show decide (hold (S 3 j) = -1) = false from decide_eq_false (by omega)]; rfl)] at ih; exact ih)
      | (rw [if_neg (show ¬ onP S j = true by unfold onP heldP; rw [show decide (hold (S 3 j) = -1) = true from decide_eq_true (by omega)]; decide)] at ih; exact ih)
    · -- 23
      refine xj_iconst (pc2 := 24) dX7_onHands_23 rfl ?_
      refine xj_goto (tgt := 28) dX7_onHands_24 rfl ?_
      refine xj_iadd (pc2 := 29) dX7_onHands_28 rfl ?_
      refine xj_istore1 (pc2 := 30) dX7_onHands_29 rfl rfl (by decide) rfl ?_
      refine xj_iinc2 (pc2 := 33) dX7_onHands_30 rfl (by decide) rfl ?_
      refine xj_goto (tgt := 4) dX7_onHands_33 rfl ?_
      first
      | (rw [if_pos (show onP S j = true by unfold onP heldP; rw [show decide (hold (S 3 j) = -1) = false from decide_eq_false (by omega)]; rfl)] at ih; exact ih)
      | (rw [if_neg (show ¬ onP S j = true by unfold onP heldP; rw [show decide (hold (S 3 j) = -1) = true from decide_eq_true (by omega)]; decide)] at ih; exact ih)
theorem hset_self {S : Sh} {t : Nat} {k x : Int} (h : S t k = x) : hset S t k x = S := by
  funext t' k'
  unfold hset
  by_cases e : t' = t ∧ k' = k
  · rw [if_pos e, e.1, e.2, h]
  · rw [if_neg e]
theorem RM_22 {S : Sh} {h : Hp} {x : Int} (hM : RM S h) : RM S (hset h 9 22 x) := RM_eq hM rfl rfl rfl rfl (fun c k q => hset_nc (by omega))
theorem c_X7_takeTea {S : Sh} {s : Int} {h : Hp} {Q : Int → Hp → Prop} (hM : RM S h) (hW : WF S) (hn0 : 0 < S 6 0) (hs : h 9 22 = s) (hs0 : 0 ≤ s ∧ s ≤ 2147483647) (hq : ∀ h', RM (passA (cbd S s).1) h' → h' 9 22 = (cbd S s).2 → (∀ c k, c ≠ 150 → c ≠ 151 → (c ≠ 9 ∨ k ≠ 22) → h' c k = h c k) → Q 0 h') : CJ 2 kX7_takeTea [.ref 9] h Q := by
  obtain ⟨⟨hn, hw, hh, hsn⟩, mG, mN, mE⟩ := id hM
  have hnn := wf_n hW
  have hw1 : 0 < S 6 1 := by rcases hW.1 with q | q <;> omega
  have hd1 := drw_rg s hn0
  have hd2 := drw_rg (sdz s) hw1
  have hd3 := drw_rg (sdz (sdz s)) (d := 2) (by decide)
  have hz1 := sdz_rg s
  have hz2 := sdz_rg (sdz s)
  have hwg := wf_g hW hd1
  have hwc := cbd_wf hW hn0 s
  have hgo := goZ_rg hW (2 * drw (sdz s) (S 6 1) + drw (sdz (sdz s)) 2)
  have fin : ∀ h1 : Hp, RM (cbd S s).1 h1 → h1 9 22 = (cbd S s).2 → (∀ c k, c ≠ 151 → (c ≠ 9 ∨ k ≠ 22) → h1 c k = h c k) → XJ none 2 kX7_takeTea h1 68 [some (.ref 9), none, none] [] Q := by
    intro h1 hM hseed hfr
    have hW := hwc
    refine xj_aload_n (pc2 := 69) dX7_takeTea_68 rfl rfl rfl ?_
    refine xj_V0V (pc2 := 72) (d2 := 1) mok_X7_goBy ml_X7_188 ima_yX7_goBy sel_yX7_goBy rfl rfl dX7_takeTea_69 rfl rfl (by decide) (by decide) (Nat.le_of_ble_eq_true rfl) (fun _ => rfl) ?_
    refine c_X7_goBy hM hW ?_
    intro h2 hM2 hex
    refine xj_vret dX7_takeTea_72 rfl ?_
    exact hq h2 hM2 ((hex 9 22 (by decide)).trans hseed) (fun c k q1 q2 q3 => (hex c k q1).trans (hfr c k q2 q3))
  have f1 : ¬ S 3 (drw s (S 6 0)) = -1 → cbd S s = (hset S 3 (drw s (S 6 0)) (-1), sdz s) := fun q => by unfold cbd; rw [if_neg q]
  have f2 : S 3 (drw s (S 6 0)) = -1 → goZ S (2 * drw (sdz s) (S 6 1) + drw (sdz (sdz s)) 2) = -1 → cbd S s = (hset S 3 (drw s (S 6 0)) (2 * drw (sdz s) (S 6 1) + drw (sdz (sdz s)) 2), sdz (sdz (sdz s))) := fun q q2 => by unfold cbd; rw [if_pos q, if_pos q2]
  have f3 : S 3 (drw s (S 6 0)) = -1 → ¬ goZ S (2 * drw (sdz s) (S 6 1) + drw (sdz (sdz s)) 2) = -1 → cbd S s = (hset S 3 (drw s (S 6 0)) (-1), sdz (sdz (sdz s))) := fun q q2 => by unfold cbd; rw [if_pos q, if_neg q2, hset_self q]
  have L1 : hset h 9 22 (sdz s) 9 22 = sdz s := hset_eq _ _ _ _
  have L2 : hset (hset h 9 22 (sdz s)) 9 22 (sdz (sdz s)) 9 22 = sdz (sdz s) := hset_eq _ _ _ _
  have M1 : RM S (hset h 9 22 (sdz s)) := RM_22 hM
  have M2 : RM S (hset (hset h 9 22 (sdz s)) 9 22 (sdz (sdz s))) := RM_22 M1
  have M3 : RM S (hset (hset (hset h 9 22 (sdz s)) 9 22 (sdz (sdz s))) 9 22 (sdz (sdz (sdz s)))) := RM_22 M2
  generalize hg : drw s (S 6 0) = g at hd1 hwg f1 f2 f3
  generalize ha : drw (sdz s) (S 6 1) = a at hd2 hgo f2 f3
  generalize hb : drw (sdz (sdz s)) 2 = b at hd3 hgo f2 f3
  have mGg : h 151 g = S 3 g := (mG g hd1.1 (by omega)).2.2.2
  refine cj_of (lo := [some (.ref 9), none, none]) mok_X7_takeTea (fun _ => rfl) (fun _ => Nat.le_of_ble_eq_true rfl) ?_
  refine xj_aload_n (pc2 := 1) dX7_takeTea_0 rfl rfl rfl ?_
  refine xj_aload_n (pc2 := 2) dX7_takeTea_1 rfl rfl rfl ?_
  refine xj_getI (pc2 := 5) (kz := 1) fok_X7_113 dX7_takeTea_2 rfl rfl rfl (by decide) rfl hn ?_
  refine xj_V1I (pc2 := 8) (d2 := 0) mok_X7_draw ml_X7_255 ima_yX7_draw sel_yX7_draw rfl rfl dX7_takeTea_5 rfl rfl (by decide) (by decide) (Nat.le_of_ble_eq_true rfl) (fun _ => rfl) ?_
  refine c_X7_draw (by assumption) (by omega) (by omega) ?_
  rw [hg]
  refine xj_istore1 (pc2 := 9) dX7_takeTea_8 rfl rfl (by decide) rfl ?_
  refine xj_aload_n (pc2 := 10) dX7_takeTea_9 rfl rfl rfl ?_
  refine xj_getRn (pc2 := 13) (c2 := 151) fok_X7_19 dX7_takeTea_10 rfl rfl rfl rfl rfl ?_
  refine xj_iload_n (pc2 := 14) dX7_takeTea_13 rfl rfl rfl ?_
  refine xj_iald (pc2 := 15) dX7_takeTea_14 rfl rfl (by omega) (by omega) mGg ?_
  refine xj_iconst (pc2 := 16) dX7_takeTea_15 rfl ?_
  refine xj_cmp_eq (pc2 := 19) (tgt := 29) dX7_takeTea_16 rfl rfl (by omega) (by omega) (fun c_16 => ?_) (fun c_16 => ?_)
  · -- 29
    refine xj_iconst (pc2 := 30) dX7_takeTea_29 rfl ?_
    refine xj_aload_n (pc2 := 31) dX7_takeTea_30 rfl rfl rfl ?_
    refine xj_aload_n (pc2 := 32) dX7_takeTea_31 rfl rfl rfl ?_
    refine xj_getI (pc2 := 35) (kz := 2) fok_X7_116 dX7_takeTea_32 rfl rfl rfl (by decide) rfl hw ?_
    refine xj_V1I (pc2 := 38) (d2 := 0) mok_X7_draw ml_X7_255 ima_yX7_draw sel_yX7_draw rfl rfl dX7_takeTea_35 rfl rfl (by decide) (by decide) (Nat.le_of_ble_eq_true rfl) (fun _ => rfl) ?_
    refine c_X7_draw (by assumption) (by omega) (by omega) ?_
    rw [ha]
    refine xj_imul (pc2 := 39) dX7_takeTea_38 rfl ?_
    refine xj_istore2 (pc2 := 40) dX7_takeTea_39 rfl rfl (by decide) rfl ?_
    refine xj_iload_n (pc2 := 41) dX7_takeTea_40 rfl rfl rfl ?_
    refine xj_aload_n (pc2 := 42) dX7_takeTea_41 rfl rfl rfl ?_
    refine xj_iconst (pc2 := 43) dX7_takeTea_42 rfl ?_
    refine xj_V1I (pc2 := 46) (d2 := 0) mok_X7_draw ml_X7_255 ima_yX7_draw sel_yX7_draw rfl rfl dX7_takeTea_43 rfl rfl (by decide) (by decide) (Nat.le_of_ble_eq_true rfl) (fun _ => rfl) ?_
    refine c_X7_draw (by assumption) (by omega) (by omega) ?_
    rw [hb]
    refine xj_iadd (pc2 := 47) dX7_takeTea_46 rfl ?_
    refine xj_istore2 (pc2 := 48) dX7_takeTea_47 rfl rfl (by decide) rfl ?_
    refine xj_aload_n (pc2 := 49) dX7_takeTea_48 rfl rfl rfl ?_
    refine xj_getRn (pc2 := 52) (c2 := 151) fok_X7_19 dX7_takeTea_49 rfl rfl rfl rfl rfl ?_
    refine xj_iload_n (pc2 := 53) dX7_takeTea_52 rfl rfl rfl ?_
    refine xj_aload_n (pc2 := 54) dX7_takeTea_53 rfl rfl rfl ?_
    refine xj_iload_n (pc2 := 55) dX7_takeTea_54 rfl rfl rfl ?_
    refine xj_V1I (pc2 := 58) (d2 := 0) mok_X7_onHand ml_X7_173 ima_yX7_onHand sel_yX7_onHand rfl rfl dX7_takeTea_55 rfl rfl (by decide) (by decide) (Nat.le_of_ble_eq_true rfl) (fun _ => rfl) ?_
    refine c_X7_onHand M3 hW (by omega) ?_
    refine xj_iconst (pc2 := 59) dX7_takeTea_58 rfl ?_
    refine xj_cmp_ne (pc2 := 62) (tgt := 66) dX7_takeTea_59 rfl rfl (by omega) (by omega) (fun c_59 => ?_) (fun c_59 => ?_)
    · -- 66
      refine xj_iconst (pc2 := 67) dX7_takeTea_66 rfl ?_
      refine xj_iast (pc2 := 68) dX7_takeTea_67 rfl rfl (by omega) (by omega) ?_
      first
      | (have ec := f1 (by omega)
         rw [ec] at fin
         refine xj_sub (by repeat (first | exact subL_nil | apply subL_none | apply subL_some rfl)) (fin _ (RM_hand M1) ((hset_nc (by decide)).trans L1) (fun c k q1 q2 => by rw [hset_nc q1]; unfold hset; exact if_neg (by omega))))
      | (have ec := f2 (by omega) (by omega)
         rw [ec] at fin
         refine xj_sub (by repeat (first | exact subL_nil | apply subL_none | apply subL_some rfl)) (fin _ (RM_hand M3) ((hset_nc (by decide)).trans (hset_eq _ _ _ _)) (fun c k q1 q2 => by rw [hset_nc q1]; unfold hset; rw [if_neg (by omega), if_neg (by omega), if_neg (by omega)])))
      | (have ec := f3 (by omega) (by omega)
         rw [ec] at fin
         refine xj_sub (by repeat (first | exact subL_nil | apply subL_none | apply subL_some rfl)) (fin _ (RM_hand M3) ((hset_nc (by decide)).trans (hset_eq _ _ _ _)) (fun c k q1 q2 => by rw [hset_nc q1]; unfold hset; rw [if_neg (by omega), if_neg (by omega), if_neg (by omega)])))
    · -- 62
      refine xj_iload_n (pc2 := 63) dX7_takeTea_62 rfl rfl rfl ?_
      refine xj_goto (tgt := 67) dX7_takeTea_63 rfl ?_
      refine xj_iast (pc2 := 68) dX7_takeTea_67 rfl rfl (by omega) (by omega) ?_
      first
      | (have ec := f1 (by omega)
         rw [ec] at fin
         refine xj_sub (by repeat (first | exact subL_nil | apply subL_none | apply subL_some rfl)) (fin _ (RM_hand M1) ((hset_nc (by decide)).trans L1) (fun c k q1 q2 => by rw [hset_nc q1]; unfold hset; exact if_neg (by omega))))
      | (have ec := f2 (by omega) (by omega)
         rw [ec] at fin
         refine xj_sub (by repeat (first | exact subL_nil | apply subL_none | apply subL_some rfl)) (fin _ (RM_hand M3) ((hset_nc (by decide)).trans (hset_eq _ _ _ _)) (fun c k q1 q2 => by rw [hset_nc q1]; unfold hset; rw [if_neg (by omega), if_neg (by omega), if_neg (by omega)])))
      | (have ec := f3 (by omega) (by omega)
         rw [ec] at fin
         refine xj_sub (by repeat (first | exact subL_nil | apply subL_none | apply subL_some rfl)) (fin _ (RM_hand M3) ((hset_nc (by decide)).trans (hset_eq _ _ _ _)) (fun c k q1 q2 => by rw [hset_nc q1]; unfold hset; rw [if_neg (by omega), if_neg (by omega), if_neg (by omega)])))
  · -- 19
    refine xj_aload_n (pc2 := 20) dX7_takeTea_19 rfl rfl rfl ?_
    refine xj_getRn (pc2 := 23) (c2 := 151) fok_X7_19 dX7_takeTea_20 rfl rfl rfl rfl rfl ?_
    refine xj_iload_n (pc2 := 24) dX7_takeTea_23 rfl rfl rfl ?_
    refine xj_iconst (pc2 := 25) dX7_takeTea_24 rfl ?_
    refine xj_iast (pc2 := 26) dX7_takeTea_25 rfl rfl (by omega) (by omega) ?_
    refine xj_goto (tgt := 68) dX7_takeTea_26 rfl ?_
    first
    | (have ec := f1 (by omega)
       rw [ec] at fin
       refine xj_sub (by repeat (first | exact subL_nil | apply subL_none | apply subL_some rfl)) (fin _ (RM_hand M1) ((hset_nc (by decide)).trans L1) (fun c k q1 q2 => by rw [hset_nc q1]; unfold hset; exact if_neg (by omega))))
    | (have ec := f2 (by omega) (by omega)
       rw [ec] at fin
       refine xj_sub (by repeat (first | exact subL_nil | apply subL_none | apply subL_some rfl)) (fin _ (RM_hand M3) ((hset_nc (by decide)).trans (hset_eq _ _ _ _)) (fun c k q1 q2 => by rw [hset_nc q1]; unfold hset; rw [if_neg (by omega), if_neg (by omega), if_neg (by omega)])))
    | (have ec := f3 (by omega) (by omega)
       rw [ec] at fin
       refine xj_sub (by repeat (first | exact subL_nil | apply subL_none | apply subL_some rfl)) (fin _ (RM_hand M3) ((hset_nc (by decide)).trans (hset_eq _ _ _ _)) (fun c k q1 q2 => by rw [hset_nc q1]; unfold hset; rw [if_neg (by omega), if_neg (by omega), if_neg (by omega)])))
