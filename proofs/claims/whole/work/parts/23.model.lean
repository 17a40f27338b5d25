/-! the model: a shop in its cells; its reads -/
def RM (S : Sh) (h : Hp) : Prop := (h 9 1 = S 6 0 ∧ h 9 2 = S 6 1 ∧ h 9 9 = S 6 2 ∧ h 9 11 = S 6 3) ∧ (∀ g, 0 ≤ g → g < S 6 0 → h 148 g = S 0 g ∧ h 149 g = S 1 g ∧ h 150 g = S 2 g ∧ h 151 g = S 3 g) ∧ (∀ w, 0 ≤ w → w < S 6 1 → h 152 w = S 4 w ∧ h 153 w = S 5 w) ∧ (∀ i, 0 ≤ i → i < S 6 3 → h 157 i = S 7 i ∧ h 158 i = S 8 i ∧ h 159 i = S 9 i)
theorem RM_eq {S : Sh} {h h' : Hp} (hM : RM S h) (e1 : h' 9 1 = h 9 1) (e2 : h' 9 2 = h 9 2) (e3 : h' 9 9 = h 9 9) (e4 : h' 9 11 = h 9 11) (e : ∀ (c : Nat) (k : Int), (148 ≤ c ∧ c ≤ 153) ∨ (157 ≤ c ∧ c ≤ 159) → h' c k = h c k) : RM S h' := by
  obtain ⟨⟨a1, a2, a3, a4⟩, mG, mN, mE⟩ := hM
  refine ⟨⟨by rw [e1, a1], by rw [e2, a2], by rw [e3, a3], by rw [e4, a4]⟩, fun g h0 h1 => ?_, fun w h0 h1 => ?_, fun i h0 h1 => ?_⟩
  · obtain ⟨b1, b2, b3, b4⟩ := mG g h0 h1
    exact ⟨by rw [e 148 _ (by decide), b1], by rw [e 149 _ (by decide), b2], by rw [e 150 _ (by decide), b3], by rw [e 151 _ (by decide), b4]⟩
  · obtain ⟨b1, b2⟩ := mN w h0 h1
    exact ⟨by rw [e 152 _ (by decide), b1], by rw [e 153 _ (by decide), b2]⟩
  · obtain ⟨b1, b2, b3⟩ := mE i h0 h1
    exact ⟨by rw [e 157 _ (by decide), b1], by rw [e 158 _ (by decide), b2], by rw [e 159 _ (by decide), b3]⟩
def bl (b : Bool) : Int := if b then 1 else 0
theorem bl_rg (b : Bool) : 0 ≤ bl b ∧ bl b ≤ 1 := by cases b <;> decide
theorem bor_zero {b : Int} (h : -2147483648 ≤ b ∧ b ≤ 2147483647) : bor b 0 = b := by
  unfold bor
  rw [show Int32.ofInt 0 = (0 : Int32) from rfl, Int32.or_zero, rg_toInt h]
theorem c_X7_size {x : Int} {h : Hp} {Q : Int → Hp → Prop} (hx : 0 ≤ x ∧ x < 1024) (hq : Q (pc x) h) : CJ 0 kX7_size [vi x] h Q := by
  rw [pc_cnt] at hq
  refine cj_of (lo := [some (vi x), none, none]) mok_X7_size (fun _ => rfl) (fun _ => Nat.le_of_ble_eq_true rfl) ?_
  refine xj_iconst (pc2 := 1) dX7_size_0 rfl ?_
  refine xj_istore1 (pc2 := 2) dX7_size_1 rfl rfl (by decide) rfl ?_
  refine xj_iconst (pc2 := 3) dX7_size_2 rfl ?_
  refine xj_istore2 (pc2 := 4) dX7_size_3 rfl rfl (by decide) rfl ?_
  refine down (P := fun j => XJ none 0 kX7_size h 4 [some (vi x), some (vi (cntz (fun g => memb x g) j)), some (vi j)] [] Q) (n := 10) ?_ ?_
  · refine xj_iload_n (pc2 := 5) dX7_size_4 rfl rfl rfl ?_
    refine xj_bipush (pc2 := 7) dX7_size_5 rfl (by decide) ?_
    refine xj_cmp_ge (pc2 := 10) (tgt := 24) dX7_size_7 rfl rfl (by omega) (by omega) (fun c_7 => ?_) (fun c_7 => by exfalso; omega)
    refine xj_iload_n (pc2 := 25) dX7_size_24 rfl rfl rfl ?_
    refine xj_iret dX7_size_25 rfl ?_
    exact hq
  · intro j hj ih
    have e : band (bshr x j) 1 = (if (fun g : Nat => memb x g) j then 1 else 0) := by
      rw [memb_test (by omega) (by omega)]
      have := Int.emod_two_eq (x / 2 ^ (j : Int).toNat)
      unfold memb
      rw [Int.toNat_natCast] at this ⊢
      by_cases q : x / 2 ^ j % 2 = 1
      · simp [q]
      · simp [q]; omega
    refine xj_iload_n (pc2 := 5) dX7_size_4 rfl rfl rfl ?_
    refine xj_bipush (pc2 := 7) dX7_size_5 rfl (by decide) ?_
    refine xj_cmp_ge (pc2 := 10) (tgt := 24) dX7_size_7 rfl rfl (by omega) (by omega) (fun c_7 => by exfalso; omega) (fun c_7 => ?_)
    refine xj_iload_n (pc2 := 11) dX7_size_10 rfl rfl rfl ?_
    refine xj_iload_n (pc2 := 12) dX7_size_11 rfl rfl rfl ?_
    refine xj_iload_n (pc2 := 13) dX7_size_12 rfl rfl rfl ?_
    refine xj_ishr (pc2 := 14) dX7_size_13 rfl ?_
    refine xj_iconst (pc2 := 15) dX7_size_14 rfl ?_
    refine xj_iand (pc2 := 16) dX7_size_15 rfl ?_
    rw [e]
    refine xj_iadd (pc2 := 17) dX7_size_16 rfl ?_
    refine xj_istore1 (pc2 := 18) dX7_size_17 rfl rfl (by decide) rfl ?_
    refine xj_iinc2 (pc2 := 21) dX7_size_18 rfl (by decide) rfl ?_
    refine xj_goto (tgt := 4) dX7_size_21 rfl ?_
    exact ih
theorem c_X7_divisor {h : Hp} {Q : Int → Hp → Prop} {a b : Int} (ha : 0 ≤ a ∧ a ≤ 100000000) (hb : 0 ≤ b ∧ b ≤ 100000000) (hq : Q (gcz a b) h) : CJ 0 kX7_divisor [vi a, vi b] h Q := by
  obtain ⟨x, rfl⟩ := Int.eq_ofNat_of_zero_le ha.1
  obtain ⟨y, rfl⟩ := Int.eq_ofNat_of_zero_le hb.1
  have key : ∀ (y' x' : Nat), x' ≤ 100000000 → y' ≤ 100000000 → Q ((Nat.gcd x' y' : Nat) : Int) h → ∀ lo4 : Option Value, noL [some (vi x), some (vi y), some (vi x'), some (vi y'), lo4] 4 = true → XJ none 0 kX7_divisor h 4 [some (vi x), some (vi y), some (vi x'), some (vi y'), none] [] Q := by
    intro y'
    induction y' using Nat.strongRecOn with
    | ind y' ih =>
      intro x' h1 h2 hq' lo4 _
      refine xj_iload_n (pc2 := 5) dX7_divisor_4 rfl rfl rfl ?_
      refine xj_if_eq (pc2 := 8) (tgt := 21) dX7_divisor_5 rfl rfl (by omega) (fun c_5 => ?_) (fun c_5 => ?_)
      · -- 21
        have e0 : y' = 0 := by omega
        subst e0
        rw [Nat.gcd_zero_right] at hq'
        refine xj_iload_n (pc2 := 22) dX7_divisor_21 rfl rfl rfl ?_
        refine xj_iret dX7_divisor_22 rfl ?_
        exact hq'
      · -- 8
        refine xj_iload_n (pc2 := 9) dX7_divisor_8 rfl rfl rfl ?_
        refine xj_iload_n (pc2 := 10) dX7_divisor_9 rfl rfl rfl ?_
        refine xj_irem (pc2 := 11) dX7_divisor_10 rfl (by omega) (by omega) ?_
        refine xj_istore4 (pc2 := 13) dX7_divisor_11 rfl (by decide) rfl ?_
        refine xj_iload_n (pc2 := 14) dX7_divisor_13 rfl rfl rfl ?_
        refine xj_istore2 (pc2 := 15) dX7_divisor_14 rfl rfl (by decide) rfl ?_
        refine xj_iload (pc2 := 17) dX7_divisor_15 rfl rfl ?_
        refine xj_istore3 (pc2 := 18) dX7_divisor_17 rfl rfl (by decide) rfl ?_
        refine xj_goto (tgt := 4) dX7_divisor_18 rfl ?_
        have hlt : x' % y' < y' := Nat.mod_lt _ (by omega)
        rw [Nat.gcd_comm, Nat.gcd_rec, Nat.gcd_comm] at hq'
        exact xj_sub (by repeat (first | exact subL_nil | apply subL_none | apply subL_some rfl)) (ih (x' % y') hlt y' h2 (by omega) hq' none rfl)
  refine cj_of (lo := [some (vi (x : Int)), some (vi (y : Int)), none, none, none]) mok_X7_divisor (fun _ => rfl) (fun _ => Nat.le_of_ble_eq_true rfl) ?_
  refine xj_iload_n (pc2 := 1) dX7_divisor_0 rfl rfl rfl ?_
  refine xj_istore2 (pc2 := 2) dX7_divisor_1 rfl rfl (by decide) rfl ?_
  refine xj_iload_n (pc2 := 3) dX7_divisor_2 rfl rfl rfl ?_
  refine xj_istore3 (pc2 := 4) dX7_divisor_3 rfl rfl (by decide) rfl ?_
  exact key y x (by omega) (by omega) hq none rfl
theorem c_X7_isGlove {S : Sh} {g : Int} {h : Hp} {Q : Int → Hp → Prop} (hM : RM S h) (hW : WF S) (hg : -2147483648 ≤ g ∧ g ≤ 2147483647) (h1 : 0 ≤ g ∧ g < S 6 0 → Q 1 h) (h0 : ¬ (0 ≤ g ∧ g < S 6 0) → Q 0 h) : CJ 1 kX7_isGlove [.ref 9, vi g] h Q := by
  obtain ⟨⟨hn, hw, hh, hs⟩, mG, mN, mE⟩ := id hM
  have hnn := wf_n hW
  refine cj_of (lo := [some (.ref 9), some (vi g)]) mok_X7_isGlove (fun _ => rfl) (fun _ => Nat.le_of_ble_eq_true rfl) ?_
  refine xj_iload_n (pc2 := 1) dX7_isGlove_0 rfl rfl rfl ?_
  refine xj_iconst (pc2 := 2) dX7_isGlove_1 rfl ?_
  refine xj_aload_n (pc2 := 3) dX7_isGlove_2 rfl rfl rfl ?_
  refine xj_getI (pc2 := 6) (kz := 1) fok_X7_113 dX7_isGlove_3 rfl rfl rfl (by decide) rfl (by first | assumption | rfl) ?_
  refine xj_iconst (pc2 := 7) dX7_isGlove_6 rfl ?_
  refine xj_isub (pc2 := 8) dX7_isGlove_7 rfl ?_
  refine xj_S3I (pc2 := 11) (d2 := 0) mok_X7_within ml_X7_77 sta_yX7_within dX7_isGlove_8 rfl rfl (by decide) (by decide) (Nat.le_of_ble_eq_true rfl) (fun _ => rfl) ?_
  refine c_X7_within (by omega) (by omega) (by omega) ?_ ?_
  · -- X7_within = 1
    intro c_8
    refine xj_zret dX7_isGlove_11 rfl (by decide) ?_
    first | exact h1 (by omega) | exact h0 (by omega)
  · -- X7_within = 0
    intro c_8
    refine xj_zret dX7_isGlove_11 rfl (by decide) ?_
    first | exact h1 (by omega) | exact h0 (by omega)
theorem c_X7_isWearer {S : Sh} {g : Int} {h : Hp} {Q : Int → Hp → Prop} (hM : RM S h) (hW : WF S) (hg : -2147483648 ≤ g ∧ g ≤ 2147483647) (h1 : 0 ≤ g ∧ g < S 6 1 → Q 1 h) (h0 : ¬ (0 ≤ g ∧ g < S 6 1) → Q 0 h) : CJ 1 kX7_isWearer [.ref 9, vi g] h Q := by
  obtain ⟨⟨hn, hw, hh, hs⟩, mG, mN, mE⟩ := id hM
  have hnn := wf_n hW
  refine cj_of (lo := [some (.ref 9), some (vi g)]) mok_X7_isWearer (fun _ => rfl) (fun _ => Nat.le_of_ble_eq_true rfl) ?_
  refine xj_iload_n (pc2 := 1) dX7_isWearer_0 rfl rfl rfl ?_
  refine xj_iconst (pc2 := 2) dX7_isWearer_1 rfl ?_
  refine xj_aload_n (pc2 := 3) dX7_isWearer_2 rfl rfl rfl ?_
  refine xj_getI (pc2 := 6) (kz := 2) fok_X7_116 dX7_isWearer_3 rfl rfl rfl (by decide) rfl (by first | assumption | rfl) ?_
  refine xj_iconst (pc2 := 7) dX7_isWearer_6 rfl ?_
  refine xj_isub (pc2 := 8) dX7_isWearer_7 rfl ?_
  refine xj_S3I (pc2 := 11) (d2 := 0) mok_X7_within ml_X7_77 sta_yX7_within dX7_isWearer_8 rfl rfl (by decide) (by decide) (Nat.le_of_ble_eq_true rfl) (fun _ => rfl) ?_
  refine c_X7_within (by omega) (by omega) (by omega) ?_ ?_
  · -- X7_within = 1
    intro c_8
    refine xj_zret dX7_isWearer_11 rfl (by decide) ?_
    first | exact h1 (by omega) | exact h0 (by omega)
  · -- X7_within = 0
    intro c_8
    refine xj_zret dX7_isWearer_11 rfl (by decide) ?_
    first | exact h1 (by omega) | exact h0 (by omega)
theorem c_X7_temperBy {S : Sh} {g m a : Int} {h : Hp} {Q : Int → Hp → Prop} (hM : RM S h) (hW : WF S) (hg : 0 ≤ g ∧ g < S 6 0) (hm : 0 ≤ m ∧ m ≤ 9) (ha : 0 ≤ a ∧ a ≤ 20) (hq : Q (temperZ (S 0 g) m a) h) : CJ 0 kX7_temperBy [.ref 9, vi g, vi m, vi a] h Q := by
  obtain ⟨⟨hn, hw, hh, hs⟩, mG, mN, mE⟩ := id hM
  have hnn := wf_n hW
  have hwg := wf_g hW hg
  refine cj_of (lo := [some (.ref 9), some (vi g), some (vi m), some (vi a)]) mok_X7_temperBy (fun _ => rfl) (fun _ => Nat.le_of_ble_eq_true rfl) ?_
  refine xj_aload_n (pc2 := 1) dX7_temperBy_0 rfl rfl rfl ?_
  refine xj_getRn (pc2 := 4) (c2 := 148) fok_X7_7 dX7_temperBy_1 rfl rfl rfl rfl rfl ?_
  refine xj_iload_n (pc2 := 5) dX7_temperBy_4 rfl rfl rfl ?_
  refine xj_iald (pc2 := 6) dX7_temperBy_5 rfl rfl (by omega) (by omega) (mG _ (by omega) (by omega)).1 ?_
  refine tsw_X7_temperBy_6 (by omega) (fun c_6 => ?_) (fun c_6 => ?_) (fun c_6 => ?_) (fun c_6 => ?_) (fun c_6 => ?_)
  · -- 36
    refine xj_iload_n (pc2 := 37) dX7_temperBy_36 rfl rfl rfl ?_
    refine xj_iload_n (pc2 := 38) dX7_temperBy_37 rfl rfl rfl ?_
    refine xj_iadd (pc2 := 39) dX7_temperBy_38 rfl ?_
    refine xj_bipush (pc2 := 41) dX7_temperBy_39 rfl (by decide) ?_
    refine xj_cmp_le (pc2 := 44) (tgt := 49) dX7_temperBy_41 rfl rfl (by omega) (by omega) (fun c_41 => ?_) (fun c_41 => ?_)
    · -- 49
      refine xj_iload_n (pc2 := 50) dX7_temperBy_49 rfl rfl rfl ?_
      refine xj_iload_n (pc2 := 51) dX7_temperBy_50 rfl rfl rfl ?_
      refine xj_iadd (pc2 := 52) dX7_temperBy_51 rfl ?_
      refine xj_iret dX7_temperBy_52 rfl ?_
      exact q_eq (by unfold temperZ; (repeat' split) <;> omega) hq
    · -- 44
      refine xj_bipush (pc2 := 46) dX7_temperBy_44 rfl (by decide) ?_
      refine xj_goto (tgt := 52) dX7_temperBy_46 rfl ?_
      refine xj_iret dX7_temperBy_52 rfl ?_
      exact q_eq (by unfold temperZ; (repeat' split) <;> omega) hq
  · -- 53
    refine xj_iload_n (pc2 := 54) dX7_temperBy_53 rfl rfl rfl ?_
    refine xj_iconst (pc2 := 55) dX7_temperBy_54 rfl ?_
    refine xj_irem (pc2 := 56) dX7_temperBy_55 rfl (by omega) (by omega) ?_
    refine xj_iconst (pc2 := 57) dX7_temperBy_56 rfl ?_
    refine xj_cmp_ne (pc2 := 60) (tgt := 64) dX7_temperBy_57 rfl rfl (by omega) (by omega) (fun c_57 => ?_) (fun c_57 => ?_)
    · -- 64
      refine xj_iconst (pc2 := 65) dX7_temperBy_64 rfl ?_
      refine xj_iret dX7_temperBy_65 rfl ?_
      exact q_eq (by unfold temperZ; (repeat' split) <;> omega) hq
    · -- 60
      refine xj_iload_n (pc2 := 61) dX7_temperBy_60 rfl rfl rfl ?_
      refine xj_goto (tgt := 65) dX7_temperBy_61 rfl ?_
      refine xj_iret dX7_temperBy_65 rfl ?_
      exact q_eq (by unfold temperZ; (repeat' split) <;> omega) hq
  · -- 66
    refine xj_iload_n (pc2 := 67) dX7_temperBy_66 rfl rfl rfl ?_
    refine xj_iload_n (pc2 := 68) dX7_temperBy_67 rfl rfl rfl ?_
    refine xj_cmp_le (pc2 := 71) (tgt := 77) dX7_temperBy_68 rfl rfl (by omega) (by omega) (fun c_68 => ?_) (fun c_68 => ?_)
    · -- 77
      refine xj_iconst (pc2 := 78) dX7_temperBy_77 rfl ?_
      refine xj_iret dX7_temperBy_78 rfl ?_
      exact q_eq (by unfold temperZ; (repeat' split) <;> omega) hq
    · -- 71
      refine xj_iload_n (pc2 := 72) dX7_temperBy_71 rfl rfl rfl ?_
      refine xj_iload_n (pc2 := 73) dX7_temperBy_72 rfl rfl rfl ?_
      refine xj_isub (pc2 := 74) dX7_temperBy_73 rfl ?_
      refine xj_goto (tgt := 78) dX7_temperBy_74 rfl ?_
      refine xj_iret dX7_temperBy_78 rfl ?_
      exact q_eq (by unfold temperZ; (repeat' split) <;> omega) hq
  · -- 79
    refine xj_iload_n (pc2 := 80) dX7_temperBy_79 rfl rfl rfl ?_
    refine xj_iconst (pc2 := 81) dX7_temperBy_80 rfl ?_
    refine xj_iload_n (pc2 := 82) dX7_temperBy_81 rfl rfl rfl ?_
    refine xj_imul (pc2 := 83) dX7_temperBy_82 rfl ?_
    refine xj_iadd (pc2 := 84) dX7_temperBy_83 rfl ?_
    refine xj_bipush (pc2 := 86) dX7_temperBy_84 rfl (by decide) ?_
    refine xj_cmp_le (pc2 := 89) (tgt := 94) dX7_temperBy_86 rfl rfl (by omega) (by omega) (fun c_86 => ?_) (fun c_86 => ?_)
    · -- 94
      refine xj_iload_n (pc2 := 95) dX7_temperBy_94 rfl rfl rfl ?_
      refine xj_iconst (pc2 := 96) dX7_temperBy_95 rfl ?_
      refine xj_iload_n (pc2 := 97) dX7_temperBy_96 rfl rfl rfl ?_
      refine xj_imul (pc2 := 98) dX7_temperBy_97 rfl ?_
      refine xj_iadd (pc2 := 99) dX7_temperBy_98 rfl ?_
      refine xj_iret dX7_temperBy_99 rfl ?_
      exact q_eq (by unfold temperZ; (repeat' split) <;> omega) hq
    · -- 89
      refine xj_bipush (pc2 := 91) dX7_temperBy_89 rfl (by decide) ?_
      refine xj_goto (tgt := 99) dX7_temperBy_91 rfl ?_
      refine xj_iret dX7_temperBy_99 rfl ?_
      exact q_eq (by unfold temperZ; (repeat' split) <;> omega) hq
  · -- 100
    refine xj_iload_n (pc2 := 101) dX7_temperBy_100 rfl rfl rfl ?_
    refine xj_iret dX7_temperBy_101 rfl ?_
    exact q_eq (by unfold temperZ; (repeat' split) <;> omega) hq
theorem c_X7_aged {S : Sh} {g m : Int} {h : Hp} {Q : Int → Hp → Prop} (hM : RM S h) (hW : WF S) (hg : 0 ≤ g ∧ g < S 6 0) (hm : 0 ≤ m ∧ m ≤ 100) (hq : Q (agez (S 2 g + m)) h) : CJ 0 kX7_aged [.ref 9, vi g, vi m] h Q := by
  obtain ⟨⟨hn, hw, hh, hs⟩, mG, mN, mE⟩ := id hM
  have hnn := wf_n hW
  have hwg := wf_g hW hg
  refine cj_of (lo := [some (.ref 9), some (vi g), some (vi m)]) mok_X7_aged (fun _ => rfl) (fun _ => Nat.le_of_ble_eq_true rfl) ?_
  refine xj_aload_n (pc2 := 1) dX7_aged_0 rfl rfl rfl ?_
  refine xj_getRn (pc2 := 4) (c2 := 150) fok_X7_16 dX7_aged_1 rfl rfl rfl rfl rfl ?_
  refine xj_iload_n (pc2 := 5) dX7_aged_4 rfl rfl rfl ?_
  refine xj_iald (pc2 := 6) dX7_aged_5 rfl rfl (by omega) (by omega) (mG _ (by omega) (by omega)).2.2.1 ?_
  refine xj_iload_n (pc2 := 7) dX7_aged_6 rfl rfl rfl ?_
  refine xj_iadd (pc2 := 8) dX7_aged_7 rfl ?_
  refine xj_bipush (pc2 := 10) dX7_aged_8 rfl (by decide) ?_
  refine xj_cmp_le (pc2 := 13) (tgt := 18) dX7_aged_10 rfl rfl (by omega) (by omega) (fun c_10 => ?_) (fun c_10 => ?_)
  · -- 18
    refine xj_aload_n (pc2 := 19) dX7_aged_18 rfl rfl rfl ?_
    refine xj_getRn (pc2 := 22) (c2 := 150) fok_X7_16 dX7_aged_19 rfl rfl rfl rfl rfl ?_
    refine xj_iload_n (pc2 := 23) dX7_aged_22 rfl rfl rfl ?_
    refine xj_iald (pc2 := 24) dX7_aged_23 rfl rfl (by omega) (by omega) (mG _ (by omega) (by omega)).2.2.1 ?_
    refine xj_iload_n (pc2 := 25) dX7_aged_24 rfl rfl rfl ?_
    refine xj_iadd (pc2 := 26) dX7_aged_25 rfl ?_
    refine xj_iret dX7_aged_26 rfl ?_
    exact q_eq (by unfold agez; split <;> omega) hq
  · -- 13
    refine xj_bipush (pc2 := 15) dX7_aged_13 rfl (by decide) ?_
    refine xj_goto (tgt := 26) dX7_aged_15 rfl ?_
    refine xj_iret dX7_aged_26 rfl ?_
    exact q_eq (by unfold agez; split <;> omega) hq
theorem c_X7_temperBehind {S : Sh} {g m : Int} {h : Hp} {Q : Int → Hp → Prop} (hM : RM S h) (hW : WF S) (hg : 0 ≤ g ∧ g < S 6 0) (hm : 0 ≤ m ∧ m ≤ 40) (hq : Q (tz S g m) h) : CJ 1 kX7_temperBehind [.ref 9, vi g, vi m] h Q := by
  obtain ⟨⟨hn, hw, hh, hs⟩, mG, mN, mE⟩ := id hM
  have hnn := wf_n hW
  have hwg := wf_g hW hg
  have hag := agez_rg (a := S 2 g + m) (by omega)
  refine cj_of (lo := [some (.ref 9), some (vi g), some (vi m)]) mok_X7_temperBehind (fun _ => rfl) (fun _ => Nat.le_of_ble_eq_true rfl) ?_
  refine xj_aload_n (pc2 := 1) dX7_temperBehind_0 rfl rfl rfl ?_
  refine xj_iload_n (pc2 := 2) dX7_temperBehind_1 rfl rfl rfl ?_
  refine xj_aload_n (pc2 := 3) dX7_temperBehind_2 rfl rfl rfl ?_
  refine xj_getRn (pc2 := 6) (c2 := 149) fok_X7_13 dX7_temperBehind_3 rfl rfl rfl rfl rfl ?_
  refine xj_iload_n (pc2 := 7) dX7_temperBehind_6 rfl rfl rfl ?_
  refine xj_iald (pc2 := 8) dX7_temperBehind_7 rfl rfl (by omega) (by omega) (mG _ (by omega) (by omega)).2.1 ?_
  refine xj_aload_n (pc2 := 9) dX7_temperBehind_8 rfl rfl rfl ?_
  refine xj_iload_n (pc2 := 10) dX7_temperBehind_9 rfl rfl rfl ?_
  refine xj_iload_n (pc2 := 11) dX7_temperBehind_10 rfl rfl rfl ?_
  refine xj_V2I (pc2 := 14) (d2 := 0) mok_X7_aged ml_X7_128 ima_yX7_aged sel_yX7_aged rfl rfl dX7_temperBehind_11 rfl rfl (by decide) (by decide) (Nat.le_of_ble_eq_true rfl) (fun _ => rfl) ?_
  refine c_X7_aged hM hW (by omega) (by omega) ?_
  refine xj_V3I (pc2 := 17) (d2 := 0) mok_X7_temperBy ml_X7_132 ima_yX7_temperBy sel_yX7_temperBy rfl rfl dX7_temperBehind_14 rfl rfl (by decide) (by decide) (Nat.le_of_ble_eq_true rfl) (fun _ => rfl) ?_
  refine c_X7_temperBy hM hW (by omega) (by omega) (by omega) ?_
  refine xj_iret dX7_temperBehind_17 rfl ?_
  exact hq
theorem c_X7_quarrel {S : Sh} {a b m : Int} {h : Hp} {Q : Int → Hp → Prop} (hM : RM S h) (hW : WF S) (ha : 0 ≤ a ∧ a < S 6 0) (hb : 0 ≤ b ∧ b < S 6 0) (hm : 0 ≤ m ∧ m ≤ 40) (h1 : 4 ≤ tz S a m - tz S b m ∨ 4 ≤ tz S b m - tz S a m → Q 1 h) (h0 : ¬ (4 ≤ tz S a m - tz S b m ∨ 4 ≤ tz S b m - tz S a m) → Q 0 h) : CJ 2 kX7_quarrel [.ref 9, vi a, vi b, vi m] h Q := by
  have hta := tz_rg hW ha hm.1
  have htb := tz_rg hW hb hm.1
  refine cj_of (lo := [some (.ref 9), some (vi a), some (vi b), some (vi m), none]) mok_X7_quarrel (fun _ => rfl) (fun _ => Nat.le_of_ble_eq_true rfl) ?_
  refine xj_aload_n (pc2 := 1) dX7_quarrel_0 rfl rfl rfl ?_
  refine xj_iload_n (pc2 := 2) dX7_quarrel_1 rfl rfl rfl ?_
  refine xj_iload_n (pc2 := 3) dX7_quarrel_2 rfl rfl rfl ?_
  refine xj_V2I (pc2 := 6) (d2 := 1) mok_X7_temperBehind ml_X7_136 ima_yX7_temperBehind sel_yX7_temperBehind rfl rfl dX7_quarrel_3 rfl rfl (by decide) (by decide) (Nat.le_of_ble_eq_true rfl) (fun _ => rfl) ?_
  refine c_X7_temperBehind hM hW (by omega) (by omega) ?_
  refine xj_aload_n (pc2 := 7) dX7_quarrel_6 rfl rfl rfl ?_
  refine xj_iload_n (pc2 := 8) dX7_quarrel_7 rfl rfl rfl ?_
  refine xj_iload_n (pc2 := 9) dX7_quarrel_8 rfl rfl rfl ?_
  refine xj_V2I (pc2 := 12) (d2 := 1) mok_X7_temperBehind ml_X7_136 ima_yX7_temperBehind sel_yX7_temperBehind rfl rfl dX7_quarrel_9 rfl rfl (by decide) (by decide) (Nat.le_of_ble_eq_true rfl) (fun _ => rfl) ?_
  refine c_X7_temperBehind hM hW (by omega) (by omega) ?_
  refine xj_isub (pc2 := 13) dX7_quarrel_12 rfl ?_
  refine xj_istore4 (pc2 := 15) dX7_quarrel_13 rfl (by decide) rfl ?_
  refine xj_iload (pc2 := 17) dX7_quarrel_15 rfl rfl ?_
  refine xj_iconst (pc2 := 18) dX7_quarrel_17 rfl ?_
  refine xj_cmp_ge (pc2 := 21) (tgt := 28) dX7_quarrel_18 rfl rfl (by omega) (by omega) (fun c_18 => ?_) (fun c_18 => ?_)
  · -- 28
    refine xj_iconst (pc2 := 29) dX7_quarrel_28 rfl ?_
    refine xj_goto (tgt := 33) dX7_quarrel_29 rfl ?_
    refine xj_zret dX7_quarrel_33 rfl (by decide) ?_
    first | exact h1 (by omega) | exact h0 (by omega)
  · -- 21
    refine xj_iload (pc2 := 23) dX7_quarrel_21 rfl rfl ?_
    refine xj_bipush (pc2 := 25) dX7_quarrel_23 rfl (by decide) ?_
    refine xj_cmp_gt (pc2 := 28) (tgt := 32) dX7_quarrel_25 rfl rfl (by omega) (by omega) (fun c_25 => ?_) (fun c_25 => ?_)
    · -- 32
      refine xj_iconst (pc2 := 33) dX7_quarrel_32 rfl ?_
      refine xj_zret dX7_quarrel_33 rfl (by decide) ?_
      first | exact h1 (by omega) | exact h0 (by omega)
    · -- 28
      refine xj_iconst (pc2 := 29) dX7_quarrel_28 rfl ?_
      refine xj_goto (tgt := 33) dX7_quarrel_29 rfl ?_
      refine xj_zret dX7_quarrel_33 rfl (by decide) ?_
      first | exact h1 (by omega) | exact h0 (by omega)
theorem c_X7_wornBy {S : Sh} {w : Int} {h : Hp} {Q : Int → Hp → Prop} (hM : RM S h) (hW : WF S) (hw0 : 0 ≤ w ∧ w ≤ 2) (hq : Q (bsum (heldP S w) (nG S)) h) : CJ 0 kX7_wornBy [.ref 9, vi w] h Q := by
  obtain ⟨⟨hn, hw, hh, hs⟩, mG, mN, mE⟩ := id hM
  have hnn := wf_n hW
  have hng := nG_eq hW
  refine cj_of (lo := [some (.ref 9), some (vi w), none, none]) mok_X7_wornBy (fun _ => rfl) (fun _ => Nat.le_of_ble_eq_true rfl) ?_
  refine xj_iconst (pc2 := 1) dX7_wornBy_0 rfl ?_
  refine xj_istore2 (pc2 := 2) dX7_wornBy_1 rfl rfl (by decide) rfl ?_
  refine xj_iconst (pc2 := 3) dX7_wornBy_2 rfl ?_
  refine xj_istore3 (pc2 := 4) dX7_wornBy_3 rfl rfl (by decide) rfl ?_
  refine down (P := fun j => XJ none 0 kX7_wornBy h 4 [some (.ref 9), some (vi w), some (vi (bsum (heldP S w) j)), some (vi j)] [] Q) (n := nG S) ?_ ?_
  · refine xj_iload_n (pc2 := 5) dX7_wornBy_4 rfl rfl rfl ?_
    refine xj_aload_n (pc2 := 6) dX7_wornBy_5 rfl rfl rfl ?_
    refine xj_getI (pc2 := 9) (kz := 1) fok_X7_113 dX7_wornBy_6 rfl rfl rfl (by decide) rfl (by first | assumption | rfl) ?_
    refine xj_cmp_ge (pc2 := 12) (tgt := 50) dX7_wornBy_9 rfl rfl (by omega) (by omega) (fun c_9 => ?_) (fun c_9 => by exfalso; omega)
    refine xj_iload_n (pc2 := 51) dX7_wornBy_50 rfl rfl rfl ?_
    refine xj_iret dX7_wornBy_51 rfl ?_
    exact hq
  · intro j hj ih
    have hwg := wf_g hW (g := (j : Int)) (by omega)
    have hbs := bsum_le6 (p := heldP S w) (n := j) (by omega)
    have hho : hold (S 3 j) = w ↔ (S 3 j ≠ -1 ∧ S 3 j / 2 = w) := by unfold hold; constructor <;> intro q <;> (try split at q) <;> (try split) <;> omega
    refine xj_iload_n (pc2 := 5) dX7_wornBy_4 rfl rfl rfl ?_
    refine xj_aload_n (pc2 := 6) dX7_wornBy_5 rfl rfl rfl ?_
    refine xj_getI (pc2 := 9) (kz := 1) fok_X7_113 dX7_wornBy_6 rfl rfl rfl (by decide) rfl (by first | assumption | rfl) ?_
    refine xj_cmp_ge (pc2 := 12) (tgt := 50) dX7_wornBy_9 rfl rfl (by omega) (by omega) (fun c_9 => by exfalso; omega) (fun c_9 => ?_)
    refine xj_iload_n (pc2 := 13) dX7_wornBy_12 rfl rfl rfl ?_
    refine xj_aload_n (pc2 := 14) dX7_wornBy_13 rfl rfl rfl ?_
    refine xj_getRn (pc2 := 17) (c2 := 151) fok_X7_19 dX7_wornBy_14 rfl rfl rfl rfl rfl ?_
    refine xj_iload_n (pc2 := 18) dX7_wornBy_17 rfl rfl rfl ?_
    refine xj_iald (pc2 := 19) dX7_wornBy_18 rfl rfl (by omega) (by omega) (mG _ (by omega) (by omega)).2.2.2 ?_
    refine xj_iconst (pc2 := 20) dX7_wornBy_19 rfl ?_
    refine xj_cmp_eq (pc2 := 23) (tgt := 41) dX7_wornBy_20 rfl rfl (by omega) (by omega) (fun c_20 => ?_) (fun c_20 => ?_)
    · -- 41
      refine xj_iconst (pc2 := 42) dX7_wornBy_41 rfl ?_
      refine xj_ior (pc2 := 43) dX7_wornBy_42 rfl ?_
      refine xj_istore2 (pc2 := 44) dX7_wornBy_43 rfl rfl (by decide) rfl ?_
      refine xj_iinc3 (pc2 := 47) dX7_wornBy_44 rfl (by decide) rfl ?_
      refine xj_goto (tgt := 4) dX7_wornBy_47 rfl ?_
      first
      | (rw [bor_zero (by omega)]
         rw [← bs_f (by unfold heldP; exact decide_eq_false (fun q => by have := hho.mp q; omega))] at ih
         exact ih)
      | (rw [← bs_t (by unfold heldP; exact decide_eq_true (hho.mpr ⟨by omega, by omega⟩)) (by omega)] at ih
         exact ih)
    · -- 23
      refine xj_aload_n (pc2 := 24) dX7_wornBy_23 rfl rfl rfl ?_
      refine xj_getRn (pc2 := 27) (c2 := 151) fok_X7_19 dX7_wornBy_24 rfl rfl rfl rfl rfl ?_
      refine xj_iload_n (pc2 := 28) dX7_wornBy_27 rfl rfl rfl ?_
      refine xj_iald (pc2 := 29) dX7_wornBy_28 rfl rfl (by omega) (by omega) (mG _ (by omega) (by omega)).2.2.2 ?_
      refine xj_iconst (pc2 := 30) dX7_wornBy_29 rfl ?_
      refine xj_idiv (pc2 := 31) dX7_wornBy_30 rfl (by omega) (by omega) ?_
      refine xj_iload_n (pc2 := 32) dX7_wornBy_31 rfl rfl rfl ?_
      refine xj_cmp_ne (pc2 := 35) (tgt := 41) dX7_wornBy_32 rfl rfl (by omega) (by omega) (fun c_32 => ?_) (fun c_32 => ?_)
      · -- 41
        refine xj_iconst (pc2 := 42) dX7_wornBy_41 rfl ?_
        refine xj_ior (pc2 := 43) dX7_wornBy_42 rfl ?_
        refine xj_istore2 (pc2 := 44) dX7_wornBy_43 rfl rfl (by decide) rfl ?_
        refine xj_iinc3 (pc2 := 47) dX7_wornBy_44 rfl (by decide) rfl ?_
        refine xj_goto (tgt := 4) dX7_wornBy_47 rfl ?_
        first
        | (rw [bor_zero (by omega)]
           rw [← bs_f (by unfold heldP; exact decide_eq_false (fun q => by have := hho.mp q; omega))] at ih
           exact ih)
        | (rw [← bs_t (by unfold heldP; exact decide_eq_true (hho.mpr ⟨by omega, by omega⟩)) (by omega)] at ih
           exact ih)
      · -- 35
        refine xj_iconst (pc2 := 36) dX7_wornBy_35 rfl ?_
        refine xj_iload_n (pc2 := 37) dX7_wornBy_36 rfl rfl rfl ?_
        refine xj_ishl (pc2 := 38) dX7_wornBy_37 rfl ?_
        refine xj_goto (tgt := 42) dX7_wornBy_38 rfl ?_
        refine xj_ior (pc2 := 43) dX7_wornBy_42 rfl ?_
        refine xj_istore2 (pc2 := 44) dX7_wornBy_43 rfl rfl (by decide) rfl ?_
        refine xj_iinc3 (pc2 := 47) dX7_wornBy_44 rfl (by decide) rfl ?_
        refine xj_goto (tgt := 4) dX7_wornBy_47 rfl ?_
        first
        | (rw [bor_zero (by omega)]
           rw [← bs_f (by unfold heldP; exact decide_eq_false (fun q => by have := hho.mp q; omega))] at ih
           exact ih)
        | (rw [← bs_t (by unfold heldP; exact decide_eq_true (hho.mpr ⟨by omega, by omega⟩)) (by omega)] at ih
           exact ih)
def quaP (S : Sh) (m : Int) (g e : Nat) : Bool := decide (4 ≤ tz S g m - tz S e m ∨ 4 ≤ tz S e m - tz S g m)
def lqE (S : Sh) (b m : Int) (g : Nat) : Nat → Bool
  | 0 => false
  | e + 1 => lqE S b m g e || (memb b g && (memb b e && quaP S m g e))
def lqG (S : Sh) (b m : Int) : Nat → Bool
  | 0 => false
  | g + 1 => lqG S b m g || lqE S b m g g
theorem lqE_iff {S : Sh} {b m : Int} {g : Nat} : ∀ n, lqE S b m g n = true ↔ ∃ e, e < n ∧ memb b g = true ∧ memb b e = true ∧ quaP S m g e = true
  | 0 => by simp [lqE]
  | n + 1 => by
    unfold lqE
    rw [Bool.or_eq_true, lqE_iff n, Bool.and_eq_true, Bool.and_eq_true]
    constructor
    · rintro (⟨e, h1, h2⟩ | h)
      · exact ⟨e, by omega, h2⟩
      · exact ⟨n, by omega, h⟩
    · rintro ⟨e, h1, h2⟩
      by_cases q : e = n
      · subst q; exact Or.inr h2
      · exact Or.inl ⟨e, by omega, h2⟩
theorem lqG_iff {S : Sh} {b m : Int} : ∀ n, lqG S b m n = true ↔ ∃ g e, e < g ∧ g < n ∧ memb b (g : Nat) = true ∧ memb b (e : Nat) = true ∧ quaP S m g e = true
  | 0 => by simp [lqG]
  | n + 1 => by
    unfold lqG
    rw [Bool.or_eq_true, lqG_iff n, lqE_iff]
    constructor
    · rintro (⟨g, e, h1, h2, h3⟩ | ⟨e, h1, h2⟩)
      · exact ⟨g, e, h1, by omega, h3⟩
      · exact ⟨n, e, h1, by omega, h2⟩
    · rintro ⟨g, e, h1, h2, h3⟩
      by_cases q : g = n
      · subst q; exact Or.inr ⟨e, h1, h3⟩
      · exact Or.inl ⟨g, e, h1, by omega, h3⟩
theorem moodZ_lq {S : Sh} (hW : WF S) {w b m : Int} (hm : 0 ≤ m) : moodZ S w b m = S 4 w + ssum (fun g => if memb b g then tz S g m else 0) (nG S) + (if bl (lqG S b m (nG S)) = 0 then 0 else 3) := by
  have h1 := gap_iff (f := fun g => tz S g m) (p := fun g => memb b g) (nG S) (fun j hj => tz_rgn hW hm j hj)
  have h2 : lqG S b m (nG S) = true ↔ 4 ≤ mst (fun g => tz S g m) (fun g => memb b g) (nG S) - lst (fun g => tz S g m) (fun g => memb b g) (nG S) := by
    rw [h1, lqG_iff]
    constructor
    · rintro ⟨g, e, a1, a2, a3, a4, a5⟩
      exact ⟨g, e, a1, a2, a3, a4, of_decide_eq_true a5⟩
    · rintro ⟨g, e, a1, a2, a3, a4, a5⟩
      exact ⟨g, e, a1, a2, a3, a4, decide_eq_true a5⟩
  unfold moodZ bl
  by_cases q : lqG S b m (nG S) = true
  · rw [if_pos (h2.mp q), q]
    simp
  · rw [if_neg (fun z => q (h2.mpr z))]
    simp only [Bool.not_eq_true] at q
    rw [q]
    simp
theorem c_X7_moodWith {S : Sh} {w s m : Int} {h : Hp} {Q : Int → Hp → Prop} (hM : RM S h) (hW : WF S) (hw0 : 0 ≤ w ∧ w < S 6 1) (hs0 : 0 ≤ s ∧ s ≤ 2147483647) (hm : 0 ≤ m ∧ m ≤ 40) (hq : Q (moodZ S w s m) h) : CJ 3 kX7_moodWith [.ref 9, vi w, vi s, vi m] h Q := by
  obtain ⟨⟨hn, hw, hh, hs⟩, mG, mN, mE⟩ := id hM
  have hnn := wf_n hW
  have hng := nG_eq hW
  have hww := wf_w hW hw0
  rw [moodZ_lq hW hm.1] at hq
  refine cj_of (lo := [some (.ref 9), some (vi w), some (vi s), some (vi m), none, none, none, none]) mok_X7_moodWith (fun _ => rfl) (fun _ => Nat.le_of_ble_eq_true rfl) ?_
  refine xj_aload_n (pc2 := 1) dX7_moodWith_0 rfl rfl rfl ?_
  refine xj_getRn (pc2 := 4) (c2 := 152) fok_X7_22 dX7_moodWith_1 rfl rfl rfl rfl rfl ?_
  refine xj_iload_n (pc2 := 5) dX7_moodWith_4 rfl rfl rfl ?_
  refine xj_iald (pc2 := 6) dX7_moodWith_5 rfl rfl (by omega) (by omega) (mN _ (by omega) (by omega)).1 ?_
  refine xj_istore4 (pc2 := 8) dX7_moodWith_6 rfl (by decide) rfl ?_
  refine xj_iconst (pc2 := 9) dX7_moodWith_8 rfl ?_
  refine xj_istore5 (pc2 := 11) dX7_moodWith_9 rfl (by decide) rfl ?_
  refine xj_iconst (pc2 := 12) dX7_moodWith_11 rfl ?_
  refine xj_istore6 (pc2 := 14) dX7_moodWith_12 rfl (by decide) rfl ?_
  rw [← Int.add_zero (S 4 w)]
  refine down (P := fun j => XJ none 3 kX7_moodWith h 14 [some (.ref 9), some (vi w), some (vi s), some (vi m), some (vi (S 4 w + ssum (fun g => if memb s g then tz S g m else 0) j)), some (vi (bl (lqG S s m j))), some (vi j), none] [] Q) (n := nG S) ?_ ?_
  · have hbr := bl_rg (lqG S s m (nG S))
    refine xj_iload (pc2 := 16) dX7_moodWith_14 rfl rfl ?_
    refine xj_aload_n (pc2 := 17) dX7_moodWith_16 rfl rfl rfl ?_
    refine xj_getI (pc2 := 20) (kz := 1) fok_X7_113 dX7_moodWith_17 rfl rfl rfl (by decide) rfl (by first | assumption | rfl) ?_
    refine xj_cmp_ge (pc2 := 23) (tgt := 112) dX7_moodWith_20 rfl rfl (by omega) (by omega) (fun c_20 => ?_) (fun c_20 => by exfalso; omega)
    refine xj_iload (pc2 := 114) dX7_moodWith_112 rfl rfl ?_
    refine xj_iload (pc2 := 116) dX7_moodWith_114 rfl rfl ?_
    refine xj_if_eq (pc2 := 119) (tgt := 123) dX7_moodWith_116 rfl rfl (by omega) (fun c_116 => ?_) (fun c_116 => ?_)
    · -- 123
      rw [if_pos c_116] at hq
      refine xj_iconst (pc2 := 124) dX7_moodWith_123 rfl ?_
      refine xj_iadd (pc2 := 125) dX7_moodWith_124 rfl ?_
      refine xj_iret dX7_moodWith_125 rfl ?_
      exact hq
    · -- 119
      rw [if_neg c_116] at hq
      refine xj_iconst (pc2 := 120) dX7_moodWith_119 rfl ?_
      refine xj_goto (tgt := 124) dX7_moodWith_120 rfl ?_
      refine xj_iadd (pc2 := 125) dX7_moodWith_124 rfl ?_
      refine xj_iret dX7_moodWith_125 rfl ?_
      exact hq
  · intro j hj ih
    have htj := tz_rg hW (g := (j : Int)) (m := m) (by omega) hm.1
    have inner : ∀ v : Int, XJ none 3 kX7_moodWith h 14 [some (.ref 9), some (vi w), some (vi s), some (vi m), some (vi v), some (vi (bl (lqG S s m (j + 1)))), some (vi ((j + 1 : Nat) : Int)), none] [] Q → XJ none 3 kX7_moodWith h 51 [some (.ref 9), some (vi w), some (vi s), some (vi m), some (vi v), some (vi (bl (lqG S s m j))), some (vi j), some (vi 0)] [] Q := by
      intro v hv
      rw [show bl (lqG S s m j) = bl (lqG S s m j || lqE S s m j 0) by rw [show lqE S s m j 0 = false from rfl, Bool.or_false]]
      refine down (P := fun i => XJ none 3 kX7_moodWith h 51 [some (.ref 9), some (vi w), some (vi s), some (vi m), some (vi v), some (vi (bl (lqG S s m j || lqE S s m j i))), some (vi j), some (vi i)] [] Q) (n := j) ?_ ?_
      · have hbr := bl_rg (lqG S s m j || lqE S s m j j)
        refine xj_iload (pc2 := 53) dX7_moodWith_51 rfl rfl ?_
        refine xj_iload (pc2 := 55) dX7_moodWith_53 rfl rfl ?_
        refine xj_cmp_ge (pc2 := 58) (tgt := 106) dX7_moodWith_55 rfl rfl (by omega) (by omega) (fun c_55 => ?_) (fun c_55 => by exfalso; omega)
        refine xj_iinc6 (pc2 := 109) dX7_moodWith_106 rfl (by decide) rfl ?_
        refine xj_goto (tgt := 14) dX7_moodWith_109 rfl ?_
        exact xj_sub (by repeat (first | exact subL_nil | apply subL_none | apply subL_some rfl)) hv
      · intro i hi ihi
        have e1 : (lqG S s m j || lqE S s m j (i + 1)) = ((lqG S s m j || lqE S s m j i) || (memb s j && (memb s i && quaP S m j i))) := by
          show (lqG S s m j || (lqE S s m j i || (memb s j && (memb s i && quaP S m j i)))) = _
          rw [Bool.or_assoc]
        rw [e1] at ihi
        have hbr := bl_rg (lqG S s m j || lqE S s m j i)
        have b1 : ¬ bl (lqG S s m j || lqE S s m j i) = 0 → (lqG S s m j || lqE S s m j i) = true := fun q => by
          cases hc : (lqG S s m j || lqE S s m j i) with
          | true => rfl
          | false => rw [hc] at q; exact absurd rfl q
        have b0 : bl (lqG S s m j || lqE S s m j i) = 0 → (lqG S s m j || lqE S s m j i) = false := fun q => by
          cases hc : (lqG S s m j || lqE S s m j i) with
          | false => rfl
          | true => rw [hc] at q; exact absurd q (by decide)
        refine xj_iload (pc2 := 53) dX7_moodWith_51 rfl rfl ?_
        refine xj_iload (pc2 := 55) dX7_moodWith_53 rfl rfl ?_
        refine xj_cmp_ge (pc2 := 58) (tgt := 106) dX7_moodWith_55 rfl rfl (by omega) (by omega) (fun c_55 => by exfalso; omega) (fun c_55 => ?_)
        refine xj_iload (pc2 := 60) dX7_moodWith_58 rfl rfl ?_
        refine xj_if_ne (pc2 := 63) (tgt := 93) dX7_moodWith_60 rfl rfl (by omega) (fun c_60 => ?_) (fun c_60 => ?_)
        · -- 93
          refine xj_iconst (pc2 := 94) dX7_moodWith_93 rfl ?_
          refine xj_goto (tgt := 98) dX7_moodWith_94 rfl ?_
          refine xj_istore5 (pc2 := 100) dX7_moodWith_98 rfl (by decide) rfl ?_
          refine xj_iinc7 (pc2 := 103) dX7_moodWith_100 rfl (by decide) rfl ?_
          refine xj_goto (tgt := 51) dX7_moodWith_103 rfl ?_
          first
          | (rw [b1 c_60, Bool.true_or] at ihi; exact ihi)
          | (rw [b0 c_60, Bool.false_or, memb_iff.mpr c_66, memb_iff.mpr c_75, Bool.true_and, Bool.true_and, show quaP S m j i = true from decide_eq_true c_87] at ihi; exact ihi)
          | (rw [b0 c_60, Bool.false_or, memb_iff.mpr c_66, memb_iff.mpr c_75, Bool.true_and, Bool.true_and, show quaP S m j i = false from decide_eq_false c_87] at ihi; exact ihi)
          | (rw [b0 c_60, Bool.false_or, Bool.eq_false_iff.mpr (fun q => c_75 (memb_iff.mp q)), Bool.false_and, Bool.and_false] at ihi; exact ihi)
          | (rw [b0 c_60, Bool.false_or, Bool.eq_false_iff.mpr (fun q => c_66 (memb_iff.mp q)), Bool.false_and] at ihi; exact ihi)
        · -- 63
          refine xj_iload_n (pc2 := 64) dX7_moodWith_63 rfl rfl rfl ?_
          refine xj_iload (pc2 := 66) dX7_moodWith_64 rfl rfl ?_
          refine xj_S2I (pc2 := 69) (d2 := 0) mok_X7_isIn ml_X7_139 sta_yX7_isIn dX7_moodWith_66 rfl rfl (by decide) (by decide) (Nat.le_of_ble_eq_true rfl) (fun _ => rfl) ?_
          refine c_X7_isIn (by omega) (by omega) ?_ ?_
          · -- X7_isIn = 1
            intro c_66
            refine xj_if_eq (pc2 := 72) (tgt := 97) dX7_moodWith_69 rfl rfl (by omega) (fun c_69 => absurd c_69 (by decide)) (fun c_69 => ?_)
            refine xj_iload_n (pc2 := 73) dX7_moodWith_72 rfl rfl rfl ?_
            refine xj_iload (pc2 := 75) dX7_moodWith_73 rfl rfl ?_
            refine xj_S2I (pc2 := 78) (d2 := 0) mok_X7_isIn ml_X7_139 sta_yX7_isIn dX7_moodWith_75 rfl rfl (by decide) (by decide) (Nat.le_of_ble_eq_true rfl) (fun _ => rfl) ?_
            refine c_X7_isIn (by omega) (by omega) ?_ ?_
            · -- X7_isIn = 1
              intro c_75
              refine xj_if_eq (pc2 := 81) (tgt := 97) dX7_moodWith_78 rfl rfl (by omega) (fun c_78 => absurd c_78 (by decide)) (fun c_78 => ?_)
              refine xj_aload_n (pc2 := 82) dX7_moodWith_81 rfl rfl rfl ?_
              refine xj_iload (pc2 := 84) dX7_moodWith_82 rfl rfl ?_
              refine xj_iload (pc2 := 86) dX7_moodWith_84 rfl rfl ?_
              refine xj_iload_n (pc2 := 87) dX7_moodWith_86 rfl rfl rfl ?_
              refine xj_V3I (pc2 := 90) (d2 := 2) mok_X7_quarrel ml_X7_143 ima_yX7_quarrel sel_yX7_quarrel rfl rfl dX7_moodWith_87 rfl rfl (by decide) (by decide) (Nat.le_of_ble_eq_true rfl) (fun _ => rfl) ?_
              refine c_X7_quarrel hM hW (by omega) (by omega) (by omega) ?_ ?_
              · -- X7_quarrel = 1
                intro c_87
                refine xj_if_eq (pc2 := 93) (tgt := 97) dX7_moodWith_90 rfl rfl (by omega) (fun c_90 => absurd c_90 (by decide)) (fun c_90 => ?_)
                refine xj_iconst (pc2 := 94) dX7_moodWith_93 rfl ?_
                refine xj_goto (tgt := 98) dX7_moodWith_94 rfl ?_
                refine xj_istore5 (pc2 := 100) dX7_moodWith_98 rfl (by decide) rfl ?_
                refine xj_iinc7 (pc2 := 103) dX7_moodWith_100 rfl (by decide) rfl ?_
                refine xj_goto (tgt := 51) dX7_moodWith_103 rfl ?_
                first
                | (rw [b1 c_60, Bool.true_or] at ihi; exact ihi)
                | (rw [b0 c_60, Bool.false_or, memb_iff.mpr c_66, memb_iff.mpr c_75, Bool.true_and, Bool.true_and, show quaP S m j i = true from decide_eq_true c_87] at ihi; exact ihi)
                | (rw [b0 c_60, Bool.false_or, memb_iff.mpr c_66, memb_iff.mpr c_75, Bool.true_and, Bool.true_and, show quaP S m j i = false from decide_eq_false c_87] at ihi; exact ihi)
                | (rw [b0 c_60, Bool.false_or, Bool.eq_false_iff.mpr (fun q => c_75 (memb_iff.mp q)), Bool.false_and, Bool.and_false] at ihi; exact ihi)
                | (rw [b0 c_60, Bool.false_or, Bool.eq_false_iff.mpr (fun q => c_66 (memb_iff.mp q)), Bool.false_and] at ihi; exact ihi)
              · -- X7_quarrel = 0
                intro c_87
                refine xj_if_eq (pc2 := 93) (tgt := 97) dX7_moodWith_90 rfl rfl (by omega) (fun c_90 => ?_) (fun c_90 => absurd c_90 (by decide))
                refine xj_iconst (pc2 := 98) dX7_moodWith_97 rfl ?_
                refine xj_istore5 (pc2 := 100) dX7_moodWith_98 rfl (by decide) rfl ?_
                refine xj_iinc7 (pc2 := 103) dX7_moodWith_100 rfl (by decide) rfl ?_
                refine xj_goto (tgt := 51) dX7_moodWith_103 rfl ?_
                first
                | (rw [b1 c_60, Bool.true_or] at ihi; exact ihi)
                | (rw [b0 c_60, Bool.false_or, memb_iff.mpr c_66, memb_iff.mpr c_75, Bool.true_and, Bool.true_and, show quaP S m j i = true from decide_eq_true c_87] at ihi; exact ihi)
                | (rw [b0 c_60, Bool.false_or, memb_iff.mpr c_66, memb_iff.mpr c_75, Bool.true_and, Bool.true_and, show quaP S m j i = false from decide_eq_false c_87] at ihi; exact ihi)
                | (rw [b0 c_60, Bool.false_or, Bool.eq_false_iff.mpr (fun q => c_75 (memb_iff.mp q)), Bool.false_and, Bool.and_false] at ihi; exact ihi)
                | (rw [b0 c_60, Bool.false_or, Bool.eq_false_iff.mpr (fun q => c_66 (memb_iff.mp q)), Bool.false_and] at ihi; exact ihi)
            · -- X7_isIn = 0
              intro c_75
              refine xj_if_eq (pc2 := 81) (tgt := 97) dX7_moodWith_78 rfl rfl (by omega) (fun c_78 => ?_) (fun c_78 => absurd c_78 (by decide))
              refine xj_iconst (pc2 := 98) dX7_moodWith_97 rfl ?_
              refine xj_istore5 (pc2 := 100) dX7_moodWith_98 rfl (by decide) rfl ?_
              refine xj_iinc7 (pc2 := 103) dX7_moodWith_100 rfl (by decide) rfl ?_
              refine xj_goto (tgt := 51) dX7_moodWith_103 rfl ?_
              first
              | (rw [b1 c_60, Bool.true_or] at ihi; exact ihi)
              | (rw [b0 c_60, Bool.false_or, memb_iff.mpr c_66, memb_iff.mpr c_75, Bool.true_and, Bool.true_and, show quaP S m j i = true from decide_eq_true c_87] at ihi; exact ihi)
              | (rw [b0 c_60, Bool.false_or, memb_iff.mpr c_66, memb_iff.mpr c_75, Bool.true_and, Bool.true_and, show quaP S m j i = false from decide_eq_false c_87] at ihi; exact ihi)
              | (rw [b0 c_60, Bool.false_or, Bool.eq_false_iff.mpr (fun q => c_75 (memb_iff.mp q)), Bool.false_and, Bool.and_false] at ihi; exact ihi)
              | (rw [b0 c_60, Bool.false_or, Bool.eq_false_iff.mpr (fun q => c_66 (memb_iff.mp q)), Bool.false_and] at ihi; exact ihi)
          · -- X7_isIn = 0
            intro c_66
            refine xj_if_eq (pc2 := 72) (tgt := 97) dX7_moodWith_69 rfl rfl (by omega) (fun c_69 => ?_) (fun c_69 => absurd c_69 (by decide))
            refine xj_iconst (pc2 := 98) dX7_moodWith_97 rfl ?_
            refine xj_istore5 (pc2 := 100) dX7_moodWith_98 rfl (by decide) rfl ?_
            refine xj_iinc7 (pc2 := 103) dX7_moodWith_100 rfl (by decide) rfl ?_
            refine xj_goto (tgt := 51) dX7_moodWith_103 rfl ?_
            first
            | (rw [b1 c_60, Bool.true_or] at ihi; exact ihi)
            | (rw [b0 c_60, Bool.false_or, memb_iff.mpr c_66, memb_iff.mpr c_75, Bool.true_and, Bool.true_and, show quaP S m j i = true from decide_eq_true c_87] at ihi; exact ihi)
            | (rw [b0 c_60, Bool.false_or, memb_iff.mpr c_66, memb_iff.mpr c_75, Bool.true_and, Bool.true_and, show quaP S m j i = false from decide_eq_false c_87] at ihi; exact ihi)
            | (rw [b0 c_60, Bool.false_or, Bool.eq_false_iff.mpr (fun q => c_75 (memb_iff.mp q)), Bool.false_and, Bool.and_false] at ihi; exact ihi)
            | (rw [b0 c_60, Bool.false_or, Bool.eq_false_iff.mpr (fun q => c_66 (memb_iff.mp q)), Bool.false_and] at ihi; exact ihi)
    have es : ssum (fun g => if memb s g then tz S g m else 0) (j + 1) = ssum (fun g => if memb s g then tz S g m else 0) j + (if memb s j then tz S j m else 0) := rfl
    rw [es, ← Int.add_assoc] at ih
    refine xj_iload (pc2 := 16) dX7_moodWith_14 rfl rfl ?_
    refine xj_aload_n (pc2 := 17) dX7_moodWith_16 rfl rfl rfl ?_
    refine xj_getI (pc2 := 20) (kz := 1) fok_X7_113 dX7_moodWith_17 rfl rfl rfl (by decide) rfl (by first | assumption | rfl) ?_
    refine xj_cmp_ge (pc2 := 23) (tgt := 112) dX7_moodWith_20 rfl rfl (by omega) (by omega) (fun c_20 => by exfalso; omega) (fun c_20 => ?_)
    refine xj_iload (pc2 := 25) dX7_moodWith_23 rfl rfl ?_
    refine xj_iload_n (pc2 := 26) dX7_moodWith_25 rfl rfl rfl ?_
    refine xj_iload (pc2 := 28) dX7_moodWith_26 rfl rfl ?_
    refine xj_S2I (pc2 := 31) (d2 := 0) mok_X7_isIn ml_X7_139 sta_yX7_isIn dX7_moodWith_28 rfl rfl (by decide) (by decide) (Nat.le_of_ble_eq_true rfl) (fun _ => rfl) ?_
    refine c_X7_isIn (by omega) (by omega) ?_ ?_
    · -- X7_isIn = 1
      intro c_28
      refine xj_if_eq (pc2 := 34) (tgt := 44) dX7_moodWith_31 rfl rfl (by omega) (fun c_31 => absurd c_31 (by decide)) (fun c_31 => ?_)
      refine xj_aload_n (pc2 := 35) dX7_moodWith_34 rfl rfl rfl ?_
      refine xj_iload (pc2 := 37) dX7_moodWith_35 rfl rfl ?_
      refine xj_iload_n (pc2 := 38) dX7_moodWith_37 rfl rfl rfl ?_
      refine xj_V2I (pc2 := 41) (d2 := 1) mok_X7_temperBehind ml_X7_136 ima_yX7_temperBehind sel_yX7_temperBehind rfl rfl dX7_moodWith_38 rfl rfl (by decide) (by decide) (Nat.le_of_ble_eq_true rfl) (fun _ => rfl) ?_
      refine c_X7_temperBehind hM hW (by omega) (by omega) ?_
      refine xj_goto (tgt := 45) dX7_moodWith_41 rfl ?_
      refine xj_iadd (pc2 := 46) dX7_moodWith_45 rfl ?_
      refine xj_istore4 (pc2 := 48) dX7_moodWith_46 rfl (by decide) rfl ?_
      refine xj_iconst (pc2 := 49) dX7_moodWith_48 rfl ?_
      refine xj_istore7 (pc2 := 51) dX7_moodWith_49 rfl (by decide) rfl ?_
      first
      | (rw [if_pos (memb_iff.mpr c_28)] at ih; exact inner _ ih)
      | (rw [if_neg (fun q => c_28 (memb_iff.mp q))] at ih; exact inner _ ih)
    · -- X7_isIn = 0
      intro c_28
      refine xj_if_eq (pc2 := 34) (tgt := 44) dX7_moodWith_31 rfl rfl (by omega) (fun c_31 => ?_) (fun c_31 => absurd c_31 (by decide))
      refine xj_iconst (pc2 := 45) dX7_moodWith_44 rfl ?_
      refine xj_iadd (pc2 := 46) dX7_moodWith_45 rfl ?_
      refine xj_istore4 (pc2 := 48) dX7_moodWith_46 rfl (by decide) rfl ?_
      refine xj_iconst (pc2 := 49) dX7_moodWith_48 rfl ?_
      refine xj_istore7 (pc2 := 51) dX7_moodWith_49 rfl (by decide) rfl ?_
      first
      | (rw [if_pos (memb_iff.mpr c_28)] at ih; exact inner _ ih)
      | (rw [if_neg (fun q => c_28 (memb_iff.mp q))] at ih; exact inner _ ih)
theorem c_X7_moodNow {S : Sh} {w : Int} {h : Hp} {Q : Int → Hp → Prop} (hM : RM S h) (hW : WF S) (hw0 : 0 ≤ w ∧ w < S 6 1) (hq : Q (moodN S w) h) : CJ 4 kX7_moodNow [.ref 9, vi w] h Q := by
  have hnn := wf_n hW
  have hng := nG_eq hW
  have hbs := bsum_le6 (p := heldP S w) (n := nG S) (by omega)
  refine cj_of (lo := [some (.ref 9), some (vi w)]) mok_X7_moodNow (fun _ => rfl) (fun _ => Nat.le_of_ble_eq_true rfl) ?_
  refine xj_aload_n (pc2 := 1) dX7_moodNow_0 rfl rfl rfl ?_
  refine xj_iload_n (pc2 := 2) dX7_moodNow_1 rfl rfl rfl ?_
  refine xj_aload_n (pc2 := 3) dX7_moodNow_2 rfl rfl rfl ?_
  refine xj_iload_n (pc2 := 4) dX7_moodNow_3 rfl rfl rfl ?_
  refine xj_V1I (pc2 := 7) (d2 := 0) mok_X7_wornBy ml_X7_146 ima_yX7_wornBy sel_yX7_wornBy rfl rfl dX7_moodNow_4 rfl rfl (by decide) (by decide) (Nat.le_of_ble_eq_true rfl) (fun _ => rfl) ?_
  refine c_X7_wornBy hM hW (by omega) ?_
  refine xj_iconst (pc2 := 8) dX7_moodNow_7 rfl ?_
  refine xj_V3I (pc2 := 11) (d2 := 3) mok_X7_moodWith ml_X7_149 ima_yX7_moodWith sel_yX7_moodWith rfl rfl dX7_moodNow_8 rfl rfl (by decide) (by decide) (Nat.le_of_ble_eq_true rfl) (fun _ => rfl) ?_
  refine c_X7_moodWith hM hW (by omega) (by omega) (by omega) ?_
  refine xj_iret dX7_moodNow_11 rfl ?_
  exact hq
theorem c_X7_isWished {S : Sh} {w m : Int} {h : Hp} {Q : Int → Hp → Prop} (hM : RM S h) (hW : WF S) (hw0 : 0 ≤ w ∧ w < S 6 1) (hm : -2147483648 ≤ m ∧ m ≤ 2147483647) (h1 : wishZ S w m = true → Q 1 h) (h0 : ¬ wishZ S w m = true → Q 0 h) : CJ 1 kX7_isWished [.ref 9, vi w, vi m] h Q := by
  obtain ⟨⟨hn, hw, hh, hs⟩, mG, mN, mE⟩ := id hM
  have hnn := wf_n hW
  have hww := wf_w hW hw0
  have hdz := doz_rg (m := m)
  unfold wishZ at h1 h0
  simp only [decide_eq_true_eq] at h1 h0
  refine cj_of (lo := [some (.ref 9), some (vi w), some (vi m)]) mok_X7_isWished (fun _ => rfl) (fun _ => Nat.le_of_ble_eq_true rfl) ?_
  refine xj_aload_n (pc2 := 1) dX7_isWished_0 rfl rfl rfl ?_
  refine xj_getRn (pc2 := 4) (c2 := 153) fok_X7_25 dX7_isWished_1 rfl rfl rfl rfl rfl ?_
  refine xj_iload_n (pc2 := 5) dX7_isWished_4 rfl rfl rfl ?_
  refine xj_iald (pc2 := 6) dX7_isWished_5 rfl rfl (by omega) (by omega) (mN _ (by omega) (by omega)).2 ?_
  refine xj_iconst (pc2 := 7) dX7_isWished_6 rfl ?_
  refine xj_cmp_eq (pc2 := 10) (tgt := 23) dX7_isWished_7 rfl rfl (by omega) (by omega) (fun c_7 => ?_) (fun c_7 => ?_)
  · -- 23
    refine xj_iconst (pc2 := 24) dX7_isWished_23 rfl ?_
    refine xj_goto (tgt := 28) dX7_isWished_24 rfl ?_
    refine xj_zret dX7_isWished_28 rfl (by decide) ?_
    first | exact h1 (by omega) | exact h0 (by omega)
  · -- 10
    refine xj_iload_n (pc2 := 11) dX7_isWished_10 rfl rfl rfl ?_
    refine xj_S1I (pc2 := 14) (d2 := 0) mok_X7_doesBy ml_X7_152 sta_yX7_doesBy dX7_isWished_11 rfl rfl (by decide) (by decide) (Nat.le_of_ble_eq_true rfl) (fun _ => rfl) ?_
    refine c_X7_doesBy (by omega) ?_
    refine xj_aload_n (pc2 := 15) dX7_isWished_14 rfl rfl rfl ?_
    refine xj_getRn (pc2 := 18) (c2 := 153) fok_X7_25 dX7_isWished_15 rfl rfl rfl rfl rfl ?_
    refine xj_iload_n (pc2 := 19) dX7_isWished_18 rfl rfl rfl ?_
    refine xj_iald (pc2 := 20) dX7_isWished_19 rfl rfl (by omega) (by omega) (mN _ (by omega) (by omega)).2 ?_
    refine xj_cmp_ne (pc2 := 23) (tgt := 27) dX7_isWished_20 rfl rfl (by omega) (by omega) (fun c_20 => ?_) (fun c_20 => ?_)
    · -- 27
      refine xj_iconst (pc2 := 28) dX7_isWished_27 rfl ?_
      refine xj_zret dX7_isWished_28 rfl (by decide) ?_
      first | exact h1 (by omega) | exact h0 (by omega)
    · -- 23
      refine xj_iconst (pc2 := 24) dX7_isWished_23 rfl ?_
      refine xj_goto (tgt := 28) dX7_isWished_24 rfl ?_
      refine xj_zret dX7_isWished_28 rfl (by decide) ?_
      first | exact h1 (by omega) | exact h0 (by omega)
theorem c_X7_quarrels {S : Sh} {g : Int} {h : Hp} {Q : Int → Hp → Prop} (hM : RM S h) (hW : WF S) (hg : 0 ≤ g ∧ g < S 6 0) (hq : Q (bsum (quarP S g) (nG S)) h) : CJ 3 kX7_quarrels [.ref 9, vi g] h Q := by
  obtain ⟨⟨hn, hw, hh, hs⟩, mG, mN, mE⟩ := id hM
  have hnn := wf_n hW
  have hng := nG_eq hW
  refine cj_of (lo := [some (.ref 9), some (vi g), none, none]) mok_X7_quarrels (fun _ => rfl) (fun _ => Nat.le_of_ble_eq_true rfl) ?_
  refine xj_iconst (pc2 := 1) dX7_quarrels_0 rfl ?_
  refine xj_istore2 (pc2 := 2) dX7_quarrels_1 rfl rfl (by decide) rfl ?_
  refine xj_iconst (pc2 := 3) dX7_quarrels_2 rfl ?_
  refine xj_istore3 (pc2 := 4) dX7_quarrels_3 rfl rfl (by decide) rfl ?_
  refine down (P := fun j => XJ none 3 kX7_quarrels h 4 [some (.ref 9), some (vi g), some (vi (bsum (quarP S g) j)), some (vi j)] [] Q) (n := nG S) ?_ ?_
  · refine xj_iload_n (pc2 := 5) dX7_quarrels_4 rfl rfl rfl ?_
    refine xj_aload_n (pc2 := 6) dX7_quarrels_5 rfl rfl rfl ?_
    refine xj_getI (pc2 := 9) (kz := 1) fok_X7_113 dX7_quarrels_6 rfl rfl rfl (by decide) rfl (by first | assumption | rfl) ?_
    refine xj_cmp_ge (pc2 := 12) (tgt := 43) dX7_quarrels_9 rfl rfl (by omega) (by omega) (fun c_9 => ?_) (fun c_9 => by exfalso; omega)
    refine xj_iload_n (pc2 := 44) dX7_quarrels_43 rfl rfl rfl ?_
    refine xj_iret dX7_quarrels_44 rfl ?_
    exact hq
  · intro j hj ih
    have hbs := bsum_le6 (p := quarP S g) (n := j) (by omega)
    refine xj_iload_n (pc2 := 5) dX7_quarrels_4 rfl rfl rfl ?_
    refine xj_aload_n (pc2 := 6) dX7_quarrels_5 rfl rfl rfl ?_
    refine xj_getI (pc2 := 9) (kz := 1) fok_X7_113 dX7_quarrels_6 rfl rfl rfl (by decide) rfl (by first | assumption | rfl) ?_
    refine xj_cmp_ge (pc2 := 12) (tgt := 43) dX7_quarrels_9 rfl rfl (by omega) (by omega) (fun c_9 => by exfalso; omega) (fun c_9 => ?_)
    refine xj_iload_n (pc2 := 13) dX7_quarrels_12 rfl rfl rfl ?_
    refine xj_iload_n (pc2 := 14) dX7_quarrels_13 rfl rfl rfl ?_
    refine xj_iload_n (pc2 := 15) dX7_quarrels_14 rfl rfl rfl ?_
    refine xj_cmp_eq (pc2 := 18) (tgt := 34) dX7_quarrels_15 rfl rfl (by omega) (by omega) (fun c_15 => ?_) (fun c_15 => ?_)
    · -- 34
      refine xj_iconst (pc2 := 35) dX7_quarrels_34 rfl ?_
      refine xj_ior (pc2 := 36) dX7_quarrels_35 rfl ?_
      refine xj_istore2 (pc2 := 37) dX7_quarrels_36 rfl rfl (by decide) rfl ?_
      refine xj_iinc3 (pc2 := 40) dX7_quarrels_37 rfl (by decide) rfl ?_
      refine xj_goto (tgt := 4) dX7_quarrels_40 rfl ?_
      first
      | (rw [bor_zero (by omega)]
         rw [← bs_f (by unfold quarP; exact decide_eq_false (fun q => by first | exact c_22 q | (rw [c_15] at q; omega)))] at ih
         exact ih)
      | (rw [← bs_t (by unfold quarP; exact decide_eq_true c_22) (by omega)] at ih
         exact ih)
    · -- 18
      refine xj_aload_n (pc2 := 19) dX7_quarrels_18 rfl rfl rfl ?_
      refine xj_iload_n (pc2 := 20) dX7_quarrels_19 rfl rfl rfl ?_
      refine xj_iload_n (pc2 := 21) dX7_quarrels_20 rfl rfl rfl ?_
      refine xj_iconst (pc2 := 22) dX7_quarrels_21 rfl ?_
      refine xj_V3I (pc2 := 25) (d2 := 2) mok_X7_quarrel ml_X7_143 ima_yX7_quarrel sel_yX7_quarrel rfl rfl dX7_quarrels_22 rfl rfl (by decide) (by decide) (Nat.le_of_ble_eq_true rfl) (fun _ => rfl) ?_
      refine c_X7_quarrel hM hW (by omega) (by omega) (by omega) ?_ ?_
      · -- X7_quarrel = 1
        intro c_22
        refine xj_if_eq (pc2 := 28) (tgt := 34) dX7_quarrels_25 rfl rfl (by omega) (fun c_25 => absurd c_25 (by decide)) (fun c_25 => ?_)
        refine xj_iconst (pc2 := 29) dX7_quarrels_28 rfl ?_
        refine xj_iload_n (pc2 := 30) dX7_quarrels_29 rfl rfl rfl ?_
        refine xj_ishl (pc2 := 31) dX7_quarrels_30 rfl ?_
        refine xj_goto (tgt := 35) dX7_quarrels_31 rfl ?_
        refine xj_ior (pc2 := 36) dX7_quarrels_35 rfl ?_
        refine xj_istore2 (pc2 := 37) dX7_quarrels_36 rfl rfl (by decide) rfl ?_
        refine xj_iinc3 (pc2 := 40) dX7_quarrels_37 rfl (by decide) rfl ?_
        refine xj_goto (tgt := 4) dX7_quarrels_40 rfl ?_
        first
        | (rw [bor_zero (by omega)]
           rw [← bs_f (by unfold quarP; exact decide_eq_false (fun q => by first | exact c_22 q | (rw [c_15] at q; omega)))] at ih
           exact ih)
        | (rw [← bs_t (by unfold quarP; exact decide_eq_true c_22) (by omega)] at ih
           exact ih)
      · -- X7_quarrel = 0
        intro c_22
        refine xj_if_eq (pc2 := 28) (tgt := 34) dX7_quarrels_25 rfl rfl (by omega) (fun c_25 => ?_) (fun c_25 => absurd c_25 (by decide))
        refine xj_iconst (pc2 := 35) dX7_quarrels_34 rfl ?_
        refine xj_ior (pc2 := 36) dX7_quarrels_35 rfl ?_
        refine xj_istore2 (pc2 := 37) dX7_quarrels_36 rfl rfl (by decide) rfl ?_
        refine xj_iinc3 (pc2 := 40) dX7_quarrels_37 rfl (by decide) rfl ?_
        refine xj_goto (tgt := 4) dX7_quarrels_40 rfl ?_
        first
        | (rw [bor_zero (by omega)]
           rw [← bs_f (by unfold quarP; exact decide_eq_false (fun q => by first | exact c_22 q | (rw [c_15] at q; omega)))] at ih
           exact ih)
        | (rw [← bs_t (by unfold quarP; exact decide_eq_true c_22) (by omega)] at ih
           exact ih)
theorem c_X7_onHand {S : Sh} {x : Int} {h : Hp} {Q : Int → Hp → Prop} (hM : RM S h) (hW : WF S) (hx : 0 ≤ x ∧ x ≤ 100) (hq : Q (goZ S x) h) : CJ 0 kX7_onHand [.ref 9, vi x] h Q := by
  obtain ⟨⟨hn, hw, hh, hs⟩, mG, mN, mE⟩ := id hM
  have hnn := wf_n hW
  have hng := nG_eq hW
  refine cj_of (lo := [some (.ref 9), some (vi x), none, none]) mok_X7_onHand (fun _ => rfl) (fun _ => Nat.le_of_ble_eq_true rfl) ?_
  refine xj_iconst (pc2 := 1) dX7_onHand_0 rfl ?_
  refine xj_istore2 (pc2 := 2) dX7_onHand_1 rfl rfl (by decide) rfl ?_
  refine xj_iconst (pc2 := 3) dX7_onHand_2 rfl ?_
  refine xj_istore3 (pc2 := 4) dX7_onHand_3 rfl rfl (by decide) rfl ?_
  refine down (P := fun j => ∀ f : Int, ((f = -1 ∧ ∀ g, 0 ≤ g → g < (j : Int) → S 3 g ≠ x) ∨ (0 ≤ f ∧ f < (j : Int) ∧ S 3 f = x)) → XJ none 0 kX7_onHand h 4 [some (.ref 9), some (vi x), some (vi f), some (vi j)] [] Q) (n := nG S) ?_ ?_ (-1) (Or.inl ⟨rfl, fun g a b => by exfalso; omega⟩)
  · intro f hf
    rw [hng] at hf
    refine xj_iload_n (pc2 := 5) dX7_onHand_4 rfl rfl rfl ?_
    refine xj_aload_n (pc2 := 6) dX7_onHand_5 rfl rfl rfl ?_
    refine xj_getI (pc2 := 9) (kz := 1) fok_X7_113 dX7_onHand_6 rfl rfl rfl (by decide) rfl (by first | assumption | rfl) ?_
    refine xj_cmp_ge (pc2 := 12) (tgt := 34) dX7_onHand_9 rfl rfl (by omega) (by omega) (fun c_9 => ?_) (fun c_9 => by exfalso; omega)
    refine xj_iload_n (pc2 := 35) dX7_onHand_34 rfl rfl rfl ?_
    refine xj_iret dX7_onHand_35 rfl ?_
    exact q_eq (goZ_of hW (by omega) hf) hq
  · intro j hj ih f hf
    have hwg := wf_g hW (g := (j : Int)) (by omega)
    refine xj_iload_n (pc2 := 5) dX7_onHand_4 rfl rfl rfl ?_
    refine xj_aload_n (pc2 := 6) dX7_onHand_5 rfl rfl rfl ?_
    refine xj_getI (pc2 := 9) (kz := 1) fok_X7_113 dX7_onHand_6 rfl rfl rfl (by decide) rfl (by first | assumption | rfl) ?_
    refine xj_cmp_ge (pc2 := 12) (tgt := 34) dX7_onHand_9 rfl rfl (by omega) (by omega) (fun c_9 => by exfalso; omega) (fun c_9 => ?_)
    refine xj_aload_n (pc2 := 13) dX7_onHand_12 rfl rfl rfl ?_
    refine xj_getRn (pc2 := 16) (c2 := 151) fok_X7_19 dX7_onHand_13 rfl rfl rfl rfl rfl ?_
    refine xj_iload_n (pc2 := 17) dX7_onHand_16 rfl rfl rfl ?_
    refine xj_iald (pc2 := 18) dX7_onHand_17 rfl rfl (by omega) (by omega) (mG _ (by omega) (by omega)).2.2.2 ?_
    refine xj_iload_n (pc2 := 19) dX7_onHand_18 rfl rfl rfl ?_
    refine xj_cmp_ne (pc2 := 22) (tgt := 26) dX7_onHand_19 rfl rfl (by omega) (by omega) (fun c_19 => ?_) (fun c_19 => ?_)
    · -- 26
      refine xj_iload_n (pc2 := 27) dX7_onHand_26 rfl rfl rfl ?_
      refine xj_istore2 (pc2 := 28) dX7_onHand_27 rfl rfl (by decide) rfl ?_
      refine xj_iinc3 (pc2 := 31) dX7_onHand_28 rfl (by decide) rfl ?_
      refine xj_goto (tgt := 4) dX7_onHand_31 rfl ?_
      first
      | exact ih _ (Or.inr ⟨by omega, by omega, c_19⟩)
      | (refine ih _ ?_
         rcases hf with ⟨q1, q2⟩ | ⟨q1, q2, q3⟩
         · refine Or.inl ⟨q1, fun g a b => ?_⟩
           by_cases e : g = (j : Int)
           · subst e; exact c_19
           · exact q2 g a (by omega)
         · exact Or.inr ⟨q1, by omega, q3⟩)
    · -- 22
      refine xj_iload_n (pc2 := 23) dX7_onHand_22 rfl rfl rfl ?_
      refine xj_goto (tgt := 27) dX7_onHand_23 rfl ?_
      refine xj_istore2 (pc2 := 28) dX7_onHand_27 rfl rfl (by decide) rfl ?_
      refine xj_iinc3 (pc2 := 31) dX7_onHand_28 rfl (by decide) rfl ?_
      refine xj_goto (tgt := 4) dX7_onHand_31 rfl ?_
      first
      | exact ih _ (Or.inr ⟨by omega, by omega, c_19⟩)
      | (refine ih _ ?_
         rcases hf with ⟨q1, q2⟩ | ⟨q1, q2, q3⟩
         · refine Or.inl ⟨q1, fun g a b => ?_⟩
           by_cases e : g = (j : Int)
           · subst e; exact c_19
           · exact q2 g a (by omega)
         · exact Or.inr ⟨q1, by omega, q3⟩)
