/-! the law's own methods: its gloves in an array of 39 -/
def RW (c : Nat) (S : Sh) (h : Hp) : Prop := (h c 0 = S 6 0 ∧ h c 1 = S 6 1) ∧ (∀ g, 0 ≤ g → g < S 6 0 → h c (9 + 5 * g) = S 0 g ∧ h c (10 + 5 * g) = S 1 g ∧ h c (11 + 5 * g) = S 2 g ∧ h c (12 + 5 * g) = hold (S 3 g) ∧ h c (13 + 5 * g) = side (S 3 g)) ∧ (∀ w, 0 ≤ w → w < S 6 1 → h c (3 + w) = S 4 w ∧ h c (6 + w) = S 5 w)
theorem RW_eq {c : Nat} {S : Sh} {h h' : Hp} (hL : RW c S h) (e : ∀ k, h' c k = h c k) : RW c S h' := by
  obtain ⟨⟨a1, a2⟩, hG, hN⟩ := hL
  refine ⟨⟨by rw [e, a1], by rw [e, a2]⟩, fun g h0 h1 => ?_, fun w h0 h1 => ?_⟩
  · obtain ⟨b1, b2, b3, b4, b5⟩ := hG g h0 h1
    exact ⟨by rw [e, b1], by rw [e, b2], by rw [e, b3], by rw [e, b4], by rw [e, b5]⟩
  · obtain ⟨b1, b2⟩ := hN w h0 h1
    exact ⟨by rw [e, b1], by rw [e, b2]⟩
theorem rk0 {c : Nat} {S : Sh} {h : Hp} {g i : Int} (hL : RW c S h) (hg : 0 ≤ g ∧ g < S 6 0) (hi : i = 9 + 5 * g) : h c i = S 0 g := by rw [hi]; exact (hL.2.1 g hg.1 hg.2).1
theorem rk1 {c : Nat} {S : Sh} {h : Hp} {g i : Int} (hL : RW c S h) (hg : 0 ≤ g ∧ g < S 6 0) (hi : i = 10 + 5 * g) : h c i = S 1 g := by rw [hi]; exact (hL.2.1 g hg.1 hg.2).2.1
theorem rk2 {c : Nat} {S : Sh} {h : Hp} {g i : Int} (hL : RW c S h) (hg : 0 ≤ g ∧ g < S 6 0) (hi : i = 11 + 5 * g) : h c i = S 2 g := by rw [hi]; exact (hL.2.1 g hg.1 hg.2).2.2.1
theorem rk3 {c : Nat} {S : Sh} {h : Hp} {g i : Int} (hL : RW c S h) (hg : 0 ≤ g ∧ g < S 6 0) (hi : i = 12 + 5 * g) : h c i = hold (S 3 g) := by rw [hi]; exact (hL.2.1 g hg.1 hg.2).2.2.2.1
theorem rk4 {c : Nat} {S : Sh} {h : Hp} {g i : Int} (hL : RW c S h) (hg : 0 ≤ g ∧ g < S 6 0) (hi : i = 13 + 5 * g) : h c i = side (S 3 g) := by rw [hi]; exact (hL.2.1 g hg.1 hg.2).2.2.2.2
theorem rn0 {c : Nat} {S : Sh} {h : Hp} {w i : Int} (hL : RW c S h) (hw : 0 ≤ w ∧ w < S 6 1) (hi : i = 3 + w) : h c i = S 4 w := by rw [hi]; exact (hL.2.2 w hw.1 hw.2).1
theorem rn1 {c : Nat} {S : Sh} {h : Hp} {w i : Int} (hL : RW c S h) (hw : 0 ≤ w ∧ w < S 6 1) (hi : i = 6 + w) : h c i = S 5 w := by rw [hi]; exact (hL.2.2 w hw.1 hw.2).2
theorem c_L_temper {k m a : Int} {h : Hp} {Q : Int → Hp → Prop} (hk : 0 ≤ k ∧ k ≤ 4) (hm : 0 ≤ m ∧ m ≤ 9) (ha : 0 ≤ a ∧ a ≤ 20) (hq : Q (temperZ k m a) h) : CJ 0 kL_temper [vi k, vi m, vi a] h Q := by
  refine cj_of (lo := [some (vi k), some (vi m), some (vi a), none]) mok_L_temper (fun _ => rfl) (fun _ => Nat.le_of_ble_eq_true rfl) ?_
  refine xj_iload_n (pc2 := 1) dL_temper_0 rfl rfl rfl ?_
  refine xj_iconst (pc2 := 2) dL_temper_1 rfl ?_
  refine xj_cmp_ne (pc2 := 5) (tgt := 11) dL_temper_2 rfl rfl (by omega) (by omega) (fun c_2 => ?_) (fun c_2 => ?_)
  · -- 11
    refine xj_iload_n (pc2 := 12) dL_temper_11 rfl rfl rfl ?_
    refine xj_iload_n (pc2 := 13) dL_temper_12 rfl rfl rfl ?_
    refine xj_iadd (pc2 := 14) dL_temper_13 rfl ?_
    refine xj_iload_n (pc2 := 15) dL_temper_14 rfl rfl rfl ?_
    refine xj_iadd (pc2 := 16) dL_temper_15 rfl ?_
    refine xj_istore3 (pc2 := 17) dL_temper_16 rfl rfl (by decide) rfl ?_
    refine xj_iload_n (pc2 := 18) dL_temper_17 rfl rfl rfl ?_
    refine xj_if_ne (pc2 := 21) (tgt := 25) dL_temper_18 rfl rfl (by omega) (fun c_18 => ?_) (fun c_18 => ?_)
    · -- 25
      refine xj_iload_n (pc2 := 26) dL_temper_25 rfl rfl rfl ?_
      refine xj_iconst (pc2 := 27) dL_temper_26 rfl ?_
      refine xj_cmp_ne (pc2 := 30) (tgt := 45) dL_temper_27 rfl rfl (by omega) (by omega) (fun c_27 => ?_) (fun c_27 => ?_)
      · -- 45
        refine xj_iload_n (pc2 := 46) dL_temper_45 rfl rfl rfl ?_
        refine xj_iconst (pc2 := 47) dL_temper_46 rfl ?_
        refine xj_cmp_ne (pc2 := 50) (tgt := 65) dL_temper_47 rfl rfl (by omega) (by omega) (fun c_47 => ?_) (fun c_47 => ?_)
        · -- 65
          refine xj_iload_n (pc2 := 66) dL_temper_65 rfl rfl rfl ?_
          refine xj_bipush (pc2 := 68) dL_temper_66 rfl (by decide) ?_
          refine xj_cmp_le (pc2 := 71) (tgt := 76) dL_temper_68 rfl rfl (by omega) (by omega) (fun c_68 => ?_) (fun c_68 => ?_)
          · -- 76
            refine xj_iload_n (pc2 := 77) dL_temper_76 rfl rfl rfl ?_
            refine xj_iret dL_temper_77 rfl ?_
            exact q_eq (by unfold temperZ; (repeat' split) <;> omega) hq
          · -- 71
            refine xj_bipush (pc2 := 73) dL_temper_71 rfl (by decide) ?_
            refine xj_goto (tgt := 77) dL_temper_73 rfl ?_
            refine xj_iret dL_temper_77 rfl ?_
            exact q_eq (by unfold temperZ; (repeat' split) <;> omega) hq
        · -- 50
          refine xj_iload_n (pc2 := 51) dL_temper_50 rfl rfl rfl ?_
          refine xj_iload_n (pc2 := 52) dL_temper_51 rfl rfl rfl ?_
          refine xj_cmp_ge (pc2 := 55) (tgt := 59) dL_temper_52 rfl rfl (by omega) (by omega) (fun c_52 => ?_) (fun c_52 => ?_)
          · -- 59
            refine xj_iload_n (pc2 := 60) dL_temper_59 rfl rfl rfl ?_
            refine xj_iload_n (pc2 := 61) dL_temper_60 rfl rfl rfl ?_
            refine xj_isub (pc2 := 62) dL_temper_61 rfl ?_
            refine xj_goto (tgt := 77) dL_temper_62 rfl ?_
            refine xj_iret dL_temper_77 rfl ?_
            exact q_eq (by unfold temperZ; (repeat' split) <;> omega) hq
          · -- 55
            refine xj_iconst (pc2 := 56) dL_temper_55 rfl ?_
            refine xj_goto (tgt := 77) dL_temper_56 rfl ?_
            refine xj_iret dL_temper_77 rfl ?_
            exact q_eq (by unfold temperZ; (repeat' split) <;> omega) hq
      · -- 30
        refine xj_iload_n (pc2 := 31) dL_temper_30 rfl rfl rfl ?_
        refine xj_iconst (pc2 := 32) dL_temper_31 rfl ?_
        refine xj_irem (pc2 := 33) dL_temper_32 rfl (by omega) (by omega) ?_
        refine xj_iconst (pc2 := 34) dL_temper_33 rfl ?_
        refine xj_cmp_ne (pc2 := 37) (tgt := 41) dL_temper_34 rfl rfl (by omega) (by omega) (fun c_34 => ?_) (fun c_34 => ?_)
        · -- 41
          refine xj_iconst (pc2 := 42) dL_temper_41 rfl ?_
          refine xj_goto (tgt := 77) dL_temper_42 rfl ?_
          refine xj_iret dL_temper_77 rfl ?_
          exact q_eq (by unfold temperZ; (repeat' split) <;> omega) hq
        · -- 37
          refine xj_iload_n (pc2 := 38) dL_temper_37 rfl rfl rfl ?_
          refine xj_goto (tgt := 77) dL_temper_38 rfl ?_
          refine xj_iret dL_temper_77 rfl ?_
          exact q_eq (by unfold temperZ; (repeat' split) <;> omega) hq
    · -- 21
      refine xj_iload_n (pc2 := 22) dL_temper_21 rfl rfl rfl ?_
      refine xj_goto (tgt := 77) dL_temper_22 rfl ?_
      refine xj_iret dL_temper_77 rfl ?_
      exact q_eq (by unfold temperZ; (repeat' split) <;> omega) hq
  · -- 5
    refine xj_iload_n (pc2 := 6) dL_temper_5 rfl rfl rfl ?_
    refine xj_iload_n (pc2 := 7) dL_temper_6 rfl rfl rfl ?_
    refine xj_iadd (pc2 := 8) dL_temper_7 rfl ?_
    refine xj_goto (tgt := 16) dL_temper_8 rfl ?_
    refine xj_istore3 (pc2 := 17) dL_temper_16 rfl rfl (by decide) rfl ?_
    refine xj_iload_n (pc2 := 18) dL_temper_17 rfl rfl rfl ?_
    refine xj_if_ne (pc2 := 21) (tgt := 25) dL_temper_18 rfl rfl (by omega) (fun c_18 => ?_) (fun c_18 => ?_)
    · -- 25
      refine xj_iload_n (pc2 := 26) dL_temper_25 rfl rfl rfl ?_
      refine xj_iconst (pc2 := 27) dL_temper_26 rfl ?_
      refine xj_cmp_ne (pc2 := 30) (tgt := 45) dL_temper_27 rfl rfl (by omega) (by omega) (fun c_27 => ?_) (fun c_27 => ?_)
      · -- 45
        refine xj_iload_n (pc2 := 46) dL_temper_45 rfl rfl rfl ?_
        refine xj_iconst (pc2 := 47) dL_temper_46 rfl ?_
        refine xj_cmp_ne (pc2 := 50) (tgt := 65) dL_temper_47 rfl rfl (by omega) (by omega) (fun c_47 => ?_) (fun c_47 => ?_)
        · -- 65
          refine xj_iload_n (pc2 := 66) dL_temper_65 rfl rfl rfl ?_
          refine xj_bipush (pc2 := 68) dL_temper_66 rfl (by decide) ?_
          refine xj_cmp_le (pc2 := 71) (tgt := 76) dL_temper_68 rfl rfl (by omega) (by omega) (fun c_68 => ?_) (fun c_68 => ?_)
          · -- 76
            refine xj_iload_n (pc2 := 77) dL_temper_76 rfl rfl rfl ?_
            refine xj_iret dL_temper_77 rfl ?_
            exact q_eq (by unfold temperZ; (repeat' split) <;> omega) hq
          · -- 71
            refine xj_bipush (pc2 := 73) dL_temper_71 rfl (by decide) ?_
            refine xj_goto (tgt := 77) dL_temper_73 rfl ?_
            refine xj_iret dL_temper_77 rfl ?_
            exact q_eq (by unfold temperZ; (repeat' split) <;> omega) hq
        · -- 50
          refine xj_iload_n (pc2 := 51) dL_temper_50 rfl rfl rfl ?_
          refine xj_iload_n (pc2 := 52) dL_temper_51 rfl rfl rfl ?_
          refine xj_cmp_ge (pc2 := 55) (tgt := 59) dL_temper_52 rfl rfl (by omega) (by omega) (fun c_52 => ?_) (fun c_52 => ?_)
          · -- 59
            refine xj_iload_n (pc2 := 60) dL_temper_59 rfl rfl rfl ?_
            refine xj_iload_n (pc2 := 61) dL_temper_60 rfl rfl rfl ?_
            refine xj_isub (pc2 := 62) dL_temper_61 rfl ?_
            refine xj_goto (tgt := 77) dL_temper_62 rfl ?_
            refine xj_iret dL_temper_77 rfl ?_
            exact q_eq (by unfold temperZ; (repeat' split) <;> omega) hq
          · -- 55
            refine xj_iconst (pc2 := 56) dL_temper_55 rfl ?_
            refine xj_goto (tgt := 77) dL_temper_56 rfl ?_
            refine xj_iret dL_temper_77 rfl ?_
            exact q_eq (by unfold temperZ; (repeat' split) <;> omega) hq
      · -- 30
        refine xj_iload_n (pc2 := 31) dL_temper_30 rfl rfl rfl ?_
        refine xj_iconst (pc2 := 32) dL_temper_31 rfl ?_
        refine xj_irem (pc2 := 33) dL_temper_32 rfl (by omega) (by omega) ?_
        refine xj_iconst (pc2 := 34) dL_temper_33 rfl ?_
        refine xj_cmp_ne (pc2 := 37) (tgt := 41) dL_temper_34 rfl rfl (by omega) (by omega) (fun c_34 => ?_) (fun c_34 => ?_)
        · -- 41
          refine xj_iconst (pc2 := 42) dL_temper_41 rfl ?_
          refine xj_goto (tgt := 77) dL_temper_42 rfl ?_
          refine xj_iret dL_temper_77 rfl ?_
          exact q_eq (by unfold temperZ; (repeat' split) <;> omega) hq
        · -- 37
          refine xj_iload_n (pc2 := 38) dL_temper_37 rfl rfl rfl ?_
          refine xj_goto (tgt := 77) dL_temper_38 rfl ?_
          refine xj_iret dL_temper_77 rfl ?_
          exact q_eq (by unfold temperZ; (repeat' split) <;> omega) hq
    · -- 21
      refine xj_iload_n (pc2 := 22) dL_temper_21 rfl rfl rfl ?_
      refine xj_goto (tgt := 77) dL_temper_22 rfl ?_
      refine xj_iret dL_temper_77 rfl ?_
      exact q_eq (by unfold temperZ; (repeat' split) <;> omega) hq
theorem c_L_then {c : Nat} {S : Sh} {g m : Int} {h : Hp} {Q : Int → Hp → Prop} (hk : kd c = (1, 39)) (hL : RW c S h) (hW : WF S) (hg : 0 ≤ g ∧ g < S 6 0) (hm : 0 ≤ m ∧ m ≤ 40) (hq : Q (tz S g m) h) : CJ 1 kL_then [.ref c, vi g, vi m] h Q := by
  have hnn := wf_n hW
  have hwg := wf_g hW hg
  refine cj_of (lo := [some (.ref c), some (vi g), some (vi m), none]) mok_L_then (fun _ => rfl) (fun _ => Nat.le_of_ble_eq_true rfl) ?_
  refine xj_aload_n (pc2 := 1) dL_then_0 rfl rfl rfl ?_
  refine xj_bipush (pc2 := 3) dL_then_1 rfl (by decide) ?_
  refine xj_iconst (pc2 := 4) dL_then_3 rfl ?_
  refine xj_iload_n (pc2 := 5) dL_then_4 rfl rfl rfl ?_
  refine xj_imul (pc2 := 6) dL_then_5 rfl ?_
  refine xj_iadd (pc2 := 7) dL_then_6 rfl ?_
  refine xj_iald (pc2 := 8) dL_then_7 rfl hk (by omega) (by omega) (rk2 hL hg (by omega)) ?_
  refine xj_iload_n (pc2 := 9) dL_then_8 rfl rfl rfl ?_
  refine xj_iadd (pc2 := 10) dL_then_9 rfl ?_
  refine xj_istore3 (pc2 := 11) dL_then_10 rfl rfl (by decide) rfl ?_
  refine xj_aload_n (pc2 := 12) dL_then_11 rfl rfl rfl ?_
  refine xj_bipush (pc2 := 14) dL_then_12 rfl (by decide) ?_
  refine xj_iconst (pc2 := 15) dL_then_14 rfl ?_
  refine xj_iload_n (pc2 := 16) dL_then_15 rfl rfl rfl ?_
  refine xj_imul (pc2 := 17) dL_then_16 rfl ?_
  refine xj_iadd (pc2 := 18) dL_then_17 rfl ?_
  refine xj_iald (pc2 := 19) dL_then_18 rfl hk (by omega) (by omega) (rk0 hL hg (by omega)) ?_
  refine xj_aload_n (pc2 := 20) dL_then_19 rfl rfl rfl ?_
  refine xj_bipush (pc2 := 22) dL_then_20 rfl (by decide) ?_
  refine xj_iconst (pc2 := 23) dL_then_22 rfl ?_
  refine xj_iload_n (pc2 := 24) dL_then_23 rfl rfl rfl ?_
  refine xj_imul (pc2 := 25) dL_then_24 rfl ?_
  refine xj_iadd (pc2 := 26) dL_then_25 rfl ?_
  refine xj_iald (pc2 := 27) dL_then_26 rfl hk (by omega) (by omega) (rk1 hL hg (by omega)) ?_
  refine xj_iload_n (pc2 := 28) dL_then_27 rfl rfl rfl ?_
  refine xj_bipush (pc2 := 30) dL_then_28 rfl (by decide) ?_
  refine xj_cmp_le (pc2 := 33) (tgt := 38) dL_then_30 rfl rfl (by omega) (by omega) (fun c_30 => ?_) (fun c_30 => ?_)
  · -- 38
    refine xj_iload_n (pc2 := 39) dL_then_38 rfl rfl rfl ?_
    refine xj_S3I (pc2 := 42) (d2 := 0) mok_L_temper ml_L_27 sta_yL_temper dL_then_39 rfl rfl (by decide) (by decide) (Nat.le_of_ble_eq_true rfl) (fun _ => rfl) ?_
    refine c_L_temper (by omega) (by omega) (by omega) ?_
    refine xj_iret dL_then_42 rfl ?_
    exact q_eq (by unfold tz agez; split <;> (congr 1 <;> omega)) hq
  · -- 33
    refine xj_bipush (pc2 := 35) dL_then_33 rfl (by decide) ?_
    refine xj_goto (tgt := 39) dL_then_35 rfl ?_
    refine xj_S3I (pc2 := 42) (d2 := 0) mok_L_temper ml_L_27 sta_yL_temper dL_then_39 rfl rfl (by decide) (by decide) (Nat.le_of_ble_eq_true rfl) (fun _ => rfl) ?_
    refine c_L_temper (by omega) (by omega) (by omega) ?_
    refine xj_iret dL_then_42 rfl ?_
    exact q_eq (by unfold tz agez; split <;> (congr 1 <;> omega)) hq
def QZ (S : Sh) (a b m : Int) : Prop := 4 ≤ tz S a m - tz S b m ∨ 4 ≤ tz S b m - tz S a m
theorem c_L_quarrel {c : Nat} {S : Sh} {a b m : Int} {h : Hp} {Q : Int → Hp → Prop} (hk : kd c = (1, 39)) (hL : RW c S h) (hW : WF S) (ha : 0 ≤ a ∧ a < S 6 0) (hb : 0 ≤ b ∧ b < S 6 0) (hm : 0 ≤ m ∧ m ≤ 40) (h1 : QZ S a b m → Q 1 h) (h0 : ¬ QZ S a b m → Q 0 h) : CJ 2 kL_quarrel [.ref c, vi a, vi b, vi m] h Q := by
  have hta := tz_rg hW ha hm.1
  have htb := tz_rg hW hb hm.1
  unfold QZ at h1 h0
  refine cj_of (lo := [some (.ref c), some (vi a), some (vi b), some (vi m), none]) mok_L_quarrel (fun _ => rfl) (fun _ => Nat.le_of_ble_eq_true rfl) ?_
  refine xj_aload_n (pc2 := 1) dL_quarrel_0 rfl rfl rfl ?_
  refine xj_iload_n (pc2 := 2) dL_quarrel_1 rfl rfl rfl ?_
  refine xj_iload_n (pc2 := 3) dL_quarrel_2 rfl rfl rfl ?_
  refine xj_S3I (pc2 := 6) (d2 := 1) mok_L_then ml_L_31 sta_yL_then dL_quarrel_3 rfl rfl (by decide) (by decide) (Nat.le_of_ble_eq_true rfl) (fun _ => rfl) ?_
  refine c_L_then hk hL hW (by omega) (by omega) ?_
  refine xj_aload_n (pc2 := 7) dL_quarrel_6 rfl rfl rfl ?_
  refine xj_iload_n (pc2 := 8) dL_quarrel_7 rfl rfl rfl ?_
  refine xj_iload_n (pc2 := 9) dL_quarrel_8 rfl rfl rfl ?_
  refine xj_S3I (pc2 := 12) (d2 := 1) mok_L_then ml_L_31 sta_yL_then dL_quarrel_9 rfl rfl (by decide) (by decide) (Nat.le_of_ble_eq_true rfl) (fun _ => rfl) ?_
  refine c_L_then hk hL hW (by omega) (by omega) ?_
  refine xj_isub (pc2 := 13) dL_quarrel_12 rfl ?_
  refine xj_istore4 (pc2 := 15) dL_quarrel_13 rfl (by decide) rfl ?_
  refine xj_iload (pc2 := 17) dL_quarrel_15 rfl rfl ?_
  refine xj_iconst (pc2 := 18) dL_quarrel_17 rfl ?_
  refine xj_cmp_gt (pc2 := 21) (tgt := 28) dL_quarrel_18 rfl rfl (by omega) (by omega) (fun c_18 => ?_) (fun c_18 => ?_)
  · -- 28
    refine xj_iconst (pc2 := 29) dL_quarrel_28 rfl ?_
    refine xj_goto (tgt := 33) dL_quarrel_29 rfl ?_
    refine xj_zret dL_quarrel_33 rfl (by decide) ?_
    first | exact h1 (by omega) | exact h0 (by omega)
  · -- 21
    refine xj_iload (pc2 := 23) dL_quarrel_21 rfl rfl ?_
    refine xj_bipush (pc2 := 25) dL_quarrel_23 rfl (by decide) ?_
    refine xj_cmp_ge (pc2 := 28) (tgt := 32) dL_quarrel_25 rfl rfl (by omega) (by omega) (fun c_25 => ?_) (fun c_25 => ?_)
    · -- 32
      refine xj_iconst (pc2 := 33) dL_quarrel_32 rfl ?_
      refine xj_zret dL_quarrel_33 rfl (by decide) ?_
      first | exact h1 (by omega) | exact h0 (by omega)
    · -- 28
      refine xj_iconst (pc2 := 29) dL_quarrel_28 rfl ?_
      refine xj_goto (tgt := 33) dL_quarrel_29 rfl ?_
      refine xj_zret dL_quarrel_33 rfl (by decide) ?_
      first | exact h1 (by omega) | exact h0 (by omega)
theorem c_L_doing {a : Int} {h : Hp} {Q : Int → Hp → Prop} (ha : -2147483648 ≤ a ∧ a ≤ 2147483647) (hq : Q (doz a) h) : CJ 0 kL_doing [vi a] h Q := by
  refine cj_of (lo := [some (vi a)]) mok_L_doing (fun _ => rfl) (fun _ => Nat.le_of_ble_eq_true rfl) ?_
  refine xj_iload_n (pc2 := 1) dL_doing_0 rfl rfl rfl ?_
  refine xj_bipush (pc2 := 3) dL_doing_1 rfl (by decide) ?_
  refine xj_cmp_ge (pc2 := 6) (tgt := 10) dL_doing_3 rfl rfl (by omega) (by omega) (fun c_3 => ?_) (fun c_3 => ?_)
  · -- 10
    refine xj_iload_n (pc2 := 11) dL_doing_10 rfl rfl rfl ?_
    refine xj_bipush (pc2 := 13) dL_doing_11 rfl (by decide) ?_
    refine xj_cmp_le (pc2 := 16) (tgt := 20) dL_doing_13 rfl rfl (by omega) (by omega) (fun c_13 => ?_) (fun c_13 => ?_)
    · -- 20
      refine xj_iconst (pc2 := 21) dL_doing_20 rfl ?_
      refine xj_iret dL_doing_21 rfl ?_
      exact q_eq (by unfold doz; (repeat' split) <;> omega) hq
    · -- 16
      refine xj_iconst (pc2 := 17) dL_doing_16 rfl ?_
      refine xj_goto (tgt := 21) dL_doing_17 rfl ?_
      refine xj_iret dL_doing_21 rfl ?_
      exact q_eq (by unfold doz; (repeat' split) <;> omega) hq
  · -- 6
    refine xj_iconst (pc2 := 7) dL_doing_6 rfl ?_
    refine xj_goto (tgt := 21) dL_doing_7 rfl ?_
    refine xj_iret dL_doing_21 rfl ?_
    exact q_eq (by unfold doz; (repeat' split) <;> omega) hq
theorem c_L_worn {c : Nat} {S : Sh} {x : Int} {h : Hp} {Q : Int → Hp → Prop} (hk : kd c = (1, 39)) (hL : RW c S h) (hW : WF S) (hx : -1 ≤ x ∧ x ≤ 2) (hq : Q (bsum (heldP S x) (nG S)) h) : CJ 0 kL_worn [.ref c, vi x] h Q := by
  obtain ⟨⟨hn, hw⟩, hG, hN⟩ := id hL
  have hnn := wf_n hW
  obtain ⟨n, hn2⟩ : ∃ n : Nat, S 6 0 = n := ⟨(S 6 0).toNat, by omega⟩
  rw [show nG S = n by unfold nG; omega] at hq
  refine cj_of (lo := [some (.ref c), some (vi x), none, none]) mok_L_worn (fun _ => rfl) (fun _ => Nat.le_of_ble_eq_true rfl) ?_
  refine xj_iconst (pc2 := 1) dL_worn_0 rfl ?_
  refine xj_istore2 (pc2 := 2) dL_worn_1 rfl rfl (by decide) rfl ?_
  refine xj_iconst (pc2 := 3) dL_worn_2 rfl ?_
  refine xj_istore3 (pc2 := 4) dL_worn_3 rfl rfl (by decide) rfl ?_
  refine down (P := fun j => XJ none 0 kL_worn h 4 [some (.ref c), some (vi x), some (vi (bsum (heldP S x) j)), some (vi j)] [] Q) (n := n) ?_ ?_
  · refine xj_iload_n (pc2 := 5) dL_worn_4 rfl rfl rfl ?_
    refine xj_aload_n (pc2 := 6) dL_worn_5 rfl rfl rfl ?_
    refine xj_iconst (pc2 := 7) dL_worn_6 rfl ?_
    refine xj_iald (pc2 := 8) dL_worn_7 rfl hk (by omega) (by omega) hn ?_
    refine xj_cmp_ge (pc2 := 11) (tgt := 39) dL_worn_8 rfl rfl (by omega) (by omega) (fun c_8 => ?_) (fun c_8 => by exfalso; omega)
    refine xj_iload_n (pc2 := 40) dL_worn_39 rfl rfl rfl ?_
    refine xj_iret dL_worn_40 rfl ?_
    exact hq
  · intro j hj ih
    try dsimp only at ih ⊢
    have hg : 0 ≤ (j : Int) ∧ (j : Int) < S 6 0 := by omega
    have hhb := hold_b hW hg
    have hbs := bsum_le6 (p := heldP S x) (n := j) (by omega)
    refine xj_iload_n (pc2 := 5) dL_worn_4 rfl rfl rfl ?_
    refine xj_aload_n (pc2 := 6) dL_worn_5 rfl rfl rfl ?_
    refine xj_iconst (pc2 := 7) dL_worn_6 rfl ?_
    refine xj_iald (pc2 := 8) dL_worn_7 rfl hk (by omega) (by omega) hn ?_
    refine xj_cmp_ge (pc2 := 11) (tgt := 39) dL_worn_8 rfl rfl (by omega) (by omega) (fun c_8 => by exfalso; omega) (fun c_8 => ?_)
    refine xj_iload_n (pc2 := 12) dL_worn_11 rfl rfl rfl ?_
    refine xj_aload_n (pc2 := 13) dL_worn_12 rfl rfl rfl ?_
    refine xj_bipush (pc2 := 15) dL_worn_13 rfl (by decide) ?_
    refine xj_iconst (pc2 := 16) dL_worn_15 rfl ?_
    refine xj_iload_n (pc2 := 17) dL_worn_16 rfl rfl rfl ?_
    refine xj_imul (pc2 := 18) dL_worn_17 rfl ?_
    refine xj_iadd (pc2 := 19) dL_worn_18 rfl ?_
    refine xj_iald (pc2 := 20) dL_worn_19 rfl hk (by omega) (by omega) (rk3 hL hg (by omega)) ?_
    refine xj_iload_n (pc2 := 21) dL_worn_20 rfl rfl rfl ?_
    refine xj_cmp_ne (pc2 := 24) (tgt := 30) dL_worn_21 rfl rfl (by omega) (by omega) (fun c_21 => ?_) (fun c_21 => ?_)
    · -- 30
      rw [← bs_f (by simpa [heldP] using c_21)] at ih
      refine xj_iconst (pc2 := 31) dL_worn_30 rfl ?_
      refine xj_ior (pc2 := 32) dL_worn_31 rfl ?_
      try rw [bor_0 (by omega)]
      refine xj_istore2 (pc2 := 33) dL_worn_32 rfl rfl (by decide) rfl ?_
      refine xj_iinc3 (pc2 := 36) dL_worn_33 rfl (by decide) rfl ?_
      refine xj_goto (tgt := 4) dL_worn_36 rfl ?_
      exact ih
    · -- 24
      rw [← bs_t (by simpa [heldP] using c_21) (by omega)] at ih
      refine xj_iconst (pc2 := 25) dL_worn_24 rfl ?_
      refine xj_iload_n (pc2 := 26) dL_worn_25 rfl rfl rfl ?_
      refine xj_ishl (pc2 := 27) dL_worn_26 rfl ?_
      refine xj_goto (tgt := 31) dL_worn_27 rfl ?_
      refine xj_ior (pc2 := 32) dL_worn_31 rfl ?_
      try rw [bor_0 (by omega)]
      refine xj_istore2 (pc2 := 33) dL_worn_32 rfl rfl (by decide) rfl ?_
      refine xj_iinc3 (pc2 := 36) dL_worn_33 rfl (by decide) rfl ?_
      refine xj_goto (tgt := 4) dL_worn_36 rfl ?_
      exact ih
theorem c_L_ones {x : Int} {h : Hp} {Q : Int → Hp → Prop} (hx : 0 ≤ x ∧ x < 1024) (hq : Q (pc x) h) : CJ 0 kL_ones [vi x] h Q := by
  refine cj_of (lo := [some (vi x), none, none]) mok_L_ones (fun _ => rfl) (fun _ => Nat.le_of_ble_eq_true rfl) ?_
  refine xj_iconst (pc2 := 1) dL_ones_0 rfl ?_
  refine xj_istore1 (pc2 := 2) dL_ones_1 rfl rfl (by decide) rfl ?_
  refine xj_iconst (pc2 := 3) dL_ones_2 rfl ?_
  refine xj_istore2 (pc2 := 4) dL_ones_3 rfl rfl (by decide) rfl ?_
  refine down (P := fun j => ∀ s, s = ssum (fun k => x / 2 ^ k % 2) j → XJ none 0 kL_ones h 4 [some (vi x), some (vi s), some (vi j)] [] Q) (n := 10) ?_ ?_ 0 rfl
  · intro s hs
    refine xj_iload_n (pc2 := 5) dL_ones_4 rfl rfl rfl ?_
    refine xj_bipush (pc2 := 7) dL_ones_5 rfl (by decide) ?_
    refine xj_cmp_ge (pc2 := 10) (tgt := 24) dL_ones_7 rfl rfl (by omega) (by omega) (fun c_7 => ?_) (fun c_7 => by exfalso; omega)
    refine xj_iload_n (pc2 := 25) dL_ones_24 rfl rfl rfl ?_
    refine xj_iret dL_ones_25 rfl ?_
    exact q_eq (by rw [hs]; unfold pc; simp [ssum]) hq
  · intro j hj ih s hs
    refine xj_iload_n (pc2 := 5) dL_ones_4 rfl rfl rfl ?_
    refine xj_bipush (pc2 := 7) dL_ones_5 rfl (by decide) ?_
    refine xj_cmp_ge (pc2 := 10) (tgt := 24) dL_ones_7 rfl rfl (by omega) (by omega) (fun c_7 => by exfalso; omega) (fun c_7 => ?_)
    refine xj_iload_n (pc2 := 11) dL_ones_10 rfl rfl rfl ?_
    refine xj_iload_n (pc2 := 12) dL_ones_11 rfl rfl rfl ?_
    refine xj_iload_n (pc2 := 13) dL_ones_12 rfl rfl rfl ?_
    refine xj_ishr (pc2 := 14) dL_ones_13 rfl ?_
    refine xj_iconst (pc2 := 15) dL_ones_14 rfl ?_
    refine xj_iand (pc2 := 16) dL_ones_15 rfl ?_
    refine xj_iadd (pc2 := 17) dL_ones_16 rfl ?_
    refine xj_istore1 (pc2 := 18) dL_ones_17 rfl rfl (by decide) rfl ?_
    refine xj_iinc2 (pc2 := 21) dL_ones_18 rfl (by decide) rfl ?_
    refine xj_goto (tgt := 4) dL_ones_21 rfl ?_
    exact ih _ (by rw [memb_test (by omega) (by omega), hs, Int.toNat_natCast]; rfl)
theorem goP_hs {S : Sh} (hW : WF S) {w s : Int} (hw : 0 ≤ w) (hs : 0 ≤ s ∧ s ≤ 1) {g : Int} (hg : 0 ≤ g ∧ g < S 6 0) : (S 3 g = 2 * w + s) ↔ (hold (S 3 g) = w ∧ side (S 3 g) = s) := by
  have hgb := wf_g hW hg
  unfold hold side
  constructor
  · intro q; rw [if_neg (by omega), if_neg (by omega)]; omega
  · rintro ⟨q1, q2⟩
    split at q1 <;> split at q2 <;> omega
theorem fnd_s1 {p : Nat → Bool} {j : Nat} (h0 : fnd p j = -1) (hp : p j = true) : fnd p (j + 1) = j := by
  unfold fnd
  rw [if_pos h0, if_pos hp]
theorem fnd_s0 {p : Nat → Bool} {j : Nat} (hp : p j = false) : fnd p (j + 1) = fnd p j := by
  show (if fnd p j = -1 then (if p j then (j : Int) else -1) else fnd p j) = _
  rw [hp]
  split
  · rename_i e; rw [e]; simp
  · rfl
theorem go_one {S : Sh} (hW : WF S) {x : Int} (hx : x ≠ -1) {j : Nat} (hj : (j : Int) < S 6 0) (hp : S 3 j = x) : fnd (goP S x) j = -1 :=
  fnd_no j (fun i hi => decide_eq_false (fun q => by
    have := hW.2.2.2.2.2.2 (i : Int) j (by omega) (by omega) (by omega) hj (q.trans hp.symm) (by rw [q]; exact hx)
    omega))
theorem c_L_onHand {c : Nat} {S : Sh} {w s : Int} {h : Hp} {Q : Int → Hp → Prop} (hk : kd c = (1, 39)) (hL : RW c S h) (hW : WF S) (hw0 : 0 ≤ w ∧ w ≤ 2) (hs0 : 0 ≤ s ∧ s ≤ 1) (hq : Q (goZ S (2 * w + s)) h) : CJ 0 kL_onHand [.ref c, vi w, vi s] h Q := by
  obtain ⟨⟨hn, hw⟩, hG, hN⟩ := id hL
  have hnn := wf_n hW
  have hng := nG_eq hW
  refine cj_of (lo := [some (.ref c), some (vi w), some (vi s), none, none]) mok_L_onHand (fun _ => rfl) (fun _ => Nat.le_of_ble_eq_true rfl) ?_
  refine xj_iconst (pc2 := 1) dL_onHand_0 rfl ?_
  refine xj_istore3 (pc2 := 2) dL_onHand_1 rfl rfl (by decide) rfl ?_
  refine xj_iconst (pc2 := 3) dL_onHand_2 rfl ?_
  refine xj_istore4 (pc2 := 5) dL_onHand_3 rfl (by decide) rfl ?_
  refine down (P := fun j => ∀ t, t = fnd (goP S (2 * w + s)) j → XJ none 0 kL_onHand h 5 [some (.ref c), some (vi w), some (vi s), some (vi t), some (vi j)] [] Q) (n := nG S) ?_ ?_ (-1) rfl
  · intro t ht
    refine xj_iload (pc2 := 7) dL_onHand_5 rfl rfl ?_
    refine xj_aload_n (pc2 := 8) dL_onHand_7 rfl rfl rfl ?_
    refine xj_iconst (pc2 := 9) dL_onHand_8 rfl ?_
    refine xj_iald (pc2 := 10) dL_onHand_9 rfl hk (by omega) (by omega) hn ?_
    refine xj_cmp_ge (pc2 := 13) (tgt := 52) dL_onHand_10 rfl rfl (by omega) (by omega) (fun c_10 => ?_) (fun c_10 => by exfalso; omega)
    refine xj_iload_n (pc2 := 53) dL_onHand_52 rfl rfl rfl ?_
    refine xj_iret dL_onHand_53 rfl ?_
    exact q_eq ht hq
  · intro j hj ih t ht
    have hg : 0 ≤ (j : Int) ∧ (j : Int) < S 6 0 := by omega
    have hhb := hold_b hW hg
    have hsb := side_b hW hg
    have hgo := goP_hs hW hw0.1 hs0 hg
    have no : ¬ (hold (S 3 j) = w ∧ side (S 3 j) = s) → t = fnd (goP S (2 * w + s)) (j + 1) := fun q => by rw [ht]; exact (fnd_s0 (decide_eq_false (fun q2 => q (hgo.mp q2)))).symm
    refine xj_iload (pc2 := 7) dL_onHand_5 rfl rfl ?_
    refine xj_aload_n (pc2 := 8) dL_onHand_7 rfl rfl rfl ?_
    refine xj_iconst (pc2 := 9) dL_onHand_8 rfl ?_
    refine xj_iald (pc2 := 10) dL_onHand_9 rfl hk (by omega) (by omega) hn ?_
    refine xj_cmp_ge (pc2 := 13) (tgt := 52) dL_onHand_10 rfl rfl (by omega) (by omega) (fun c_10 => by exfalso; omega) (fun c_10 => ?_)
    refine xj_aload_n (pc2 := 14) dL_onHand_13 rfl rfl rfl ?_
    refine xj_bipush (pc2 := 16) dL_onHand_14 rfl (by decide) ?_
    refine xj_iconst (pc2 := 17) dL_onHand_16 rfl ?_
    refine xj_iload (pc2 := 19) dL_onHand_17 rfl rfl ?_
    refine xj_imul (pc2 := 20) dL_onHand_19 rfl ?_
    refine xj_iadd (pc2 := 21) dL_onHand_20 rfl ?_
    refine xj_iald (pc2 := 22) dL_onHand_21 rfl hk (by omega) (by omega) (rk3 hL hg (by omega)) ?_
    refine xj_iload_n (pc2 := 23) dL_onHand_22 rfl rfl rfl ?_
    refine xj_cmp_ne (pc2 := 26) (tgt := 44) dL_onHand_23 rfl rfl (by omega) (by omega) (fun c_23 => ?_) (fun c_23 => ?_)
    · -- 44
      refine xj_iload_n (pc2 := 45) dL_onHand_44 rfl rfl rfl ?_
      refine xj_istore3 (pc2 := 46) dL_onHand_45 rfl rfl (by decide) rfl ?_
      refine xj_iinc4 (pc2 := 49) dL_onHand_46 rfl (by decide) rfl ?_
      refine xj_goto (tgt := 5) dL_onHand_49 rfl ?_
      first
      | exact ih _ (no (fun q => c_23 q.1))
      | exact ih _ (no (fun q => c_36 q.2))
      | exact ih _ (fnd_s1 (go_one hW (by omega) hg.2 (hgo.mpr (by omega))) (decide_eq_true (hgo.mpr (by omega)))).symm
    · -- 26
      refine xj_aload_n (pc2 := 27) dL_onHand_26 rfl rfl rfl ?_
      refine xj_bipush (pc2 := 29) dL_onHand_27 rfl (by decide) ?_
      refine xj_iconst (pc2 := 30) dL_onHand_29 rfl ?_
      refine xj_iload (pc2 := 32) dL_onHand_30 rfl rfl ?_
      refine xj_imul (pc2 := 33) dL_onHand_32 rfl ?_
      refine xj_iadd (pc2 := 34) dL_onHand_33 rfl ?_
      refine xj_iald (pc2 := 35) dL_onHand_34 rfl hk (by omega) (by omega) (rk4 hL hg (by omega)) ?_
      refine xj_iload_n (pc2 := 36) dL_onHand_35 rfl rfl rfl ?_
      refine xj_cmp_ne (pc2 := 39) (tgt := 44) dL_onHand_36 rfl rfl (by omega) (by omega) (fun c_36 => ?_) (fun c_36 => ?_)
      · -- 44
        refine xj_iload_n (pc2 := 45) dL_onHand_44 rfl rfl rfl ?_
        refine xj_istore3 (pc2 := 46) dL_onHand_45 rfl rfl (by decide) rfl ?_
        refine xj_iinc4 (pc2 := 49) dL_onHand_46 rfl (by decide) rfl ?_
        refine xj_goto (tgt := 5) dL_onHand_49 rfl ?_
        first
        | exact ih _ (no (fun q => c_23 q.1))
        | exact ih _ (no (fun q => c_36 q.2))
        | exact ih _ (fnd_s1 (go_one hW (by omega) hg.2 (hgo.mpr (by omega))) (decide_eq_true (hgo.mpr (by omega)))).symm
      · -- 39
        refine xj_iload (pc2 := 41) dL_onHand_39 rfl rfl ?_
        refine xj_goto (tgt := 45) dL_onHand_41 rfl ?_
        refine xj_istore3 (pc2 := 46) dL_onHand_45 rfl rfl (by decide) rfl ?_
        refine xj_iinc4 (pc2 := 49) dL_onHand_46 rfl (by decide) rfl ?_
        refine xj_goto (tgt := 5) dL_onHand_49 rfl ?_
        first
        | exact ih _ (no (fun q => c_23 q.1))
        | exact ih _ (no (fun q => c_36 q.2))
        | exact ih _ (fnd_s1 (go_one hW (by omega) hg.2 (hgo.mpr (by omega))) (decide_eq_true (hgo.mpr (by omega)))).symm
