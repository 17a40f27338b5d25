/-! the model: marks, feels, changes; its queries -/
theorem bl_z {b : Bool} (h : bl b = 0) : b = false := by cases b; rfl; exact absurd h (by decide)
theorem bl_nz {b : Bool} (h : ¬ bl b = 0) : b = true := by cases b; exact absurd rfl h; rfl
theorem bor_as (a b c : Int) : bor (bor a b) c = bor a (bor b c) := by
  unfold bor
  rw [Int32.ofInt_toInt, Int32.ofInt_toInt, Int32.or_assoc]
theorem c_X7_marksOf {S : Sh} {g : Int} {h : Hp} {Q : Int → Hp → Prop} (hM : RM S h) (hW : WF S) (hg : 0 ≤ g ∧ g < S 6 0) (hq : Q (pmZ S g) h) : CJ 1 kX7_marksOf [.ref 9, vi g] h Q := by
  obtain ⟨⟨hn, hw, hh, hs⟩, mG, mN, mE⟩ := id hM
  have hnn := wf_n hW
  have hwg := wf_g hW hg
  obtain ⟨n, hn2⟩ : ∃ n : Nat, S 6 3 = n := ⟨(S 6 3).toNat, by omega⟩
  rw [pmZ] at hq
  refine cj_of (lo := [some (.ref 9), some (vi g), none, none, none, none]) mok_X7_marksOf (fun _ => rfl) (fun _ => Nat.le_of_ble_eq_true rfl) ?_
  refine xj_iconst (pc2 := 1) dX7_marksOf_0 rfl ?_
  refine xj_istore2 (pc2 := 2) dX7_marksOf_1 rfl rfl (by decide) rfl ?_
  refine xj_iconst (pc2 := 3) dX7_marksOf_2 rfl ?_
  refine xj_istore3 (pc2 := 4) dX7_marksOf_3 rfl rfl (by decide) rfl ?_
  refine down (P := fun j => XJ none 1 kX7_marksOf h 4 [some (.ref 9), some (vi g), some (vi (bsum (fun m => agr S g m) j)), some (vi j), none, none] [] Q) (n := 10) ?_ ?_
  · refine xj_iload_n (pc2 := 5) dX7_marksOf_4 rfl rfl rfl ?_
    refine xj_bipush (pc2 := 7) dX7_marksOf_5 rfl (by decide) ?_
    refine xj_cmp_gt (pc2 := 10) (tgt := 103) dX7_marksOf_7 rfl rfl (by omega) (by omega) (fun c_7 => ?_) (fun c_7 => by exfalso; omega)
    refine xj_iload_n (pc2 := 104) dX7_marksOf_103 rfl rfl rfl ?_
    refine xj_iret dX7_marksOf_104 rfl ?_
    exact hq
  · intro j hj ih
    have hbs := bsum_le (p := fun m => agr S g m) (n := j) (by omega)
    have hagr : agr S g (j : Int) = allb (agP S g j) n := by unfold agr; rw [show (S 6 3).toNat = n by omega]
    refine xj_iload_n (pc2 := 5) dX7_marksOf_4 rfl rfl rfl ?_
    refine xj_bipush (pc2 := 7) dX7_marksOf_5 rfl (by decide) ?_
    refine xj_cmp_gt (pc2 := 10) (tgt := 103) dX7_marksOf_7 rfl rfl (by omega) (by omega) (fun c_7 => by exfalso; omega) (fun c_7 => ?_)
    refine xj_iconst (pc2 := 11) dX7_marksOf_10 rfl ?_
    refine xj_istore4 (pc2 := 13) dX7_marksOf_11 rfl (by decide) rfl ?_
    refine xj_iconst (pc2 := 14) dX7_marksOf_13 rfl ?_
    refine xj_istore5 (pc2 := 16) dX7_marksOf_14 rfl (by decide) rfl ?_
    refine down (P := fun i => XJ none 1 kX7_marksOf h 16 [some (.ref 9), some (vi g), some (vi (bsum (fun m => agr S g m) j)), some (vi j), some (vi (bl (allb (agP S g j) i))), some (vi i)] [] Q) (n := n) ?_ ?_
    · have hbr := bl_rg (allb (agP S g j) n)
      refine xj_iload (pc2 := 18) dX7_marksOf_16 rfl rfl ?_
      refine xj_aload_n (pc2 := 19) dX7_marksOf_18 rfl rfl rfl ?_
      refine xj_getI (pc2 := 22) (kz := 11) fok_X7_125 dX7_marksOf_19 rfl rfl rfl (by decide) rfl (by first | assumption | rfl) ?_
      refine xj_cmp_ge (pc2 := 25) (tgt := 82) dX7_marksOf_22 rfl rfl (by omega) (by omega) (fun c_22 => ?_) (fun c_22 => by exfalso; omega)
      refine xj_iload_n (pc2 := 83) dX7_marksOf_82 rfl rfl rfl ?_
      refine xj_iload (pc2 := 85) dX7_marksOf_83 rfl rfl ?_
      refine xj_if_eq (pc2 := 88) (tgt := 94) dX7_marksOf_85 rfl rfl (by omega) (fun c_85 => ?_) (fun c_85 => ?_)
      · -- 94
        refine xj_iconst (pc2 := 95) dX7_marksOf_94 rfl ?_
        refine xj_ior (pc2 := 96) dX7_marksOf_95 rfl ?_
        refine xj_istore2 (pc2 := 97) dX7_marksOf_96 rfl rfl (by decide) rfl ?_
        refine xj_iinc3 (pc2 := 100) dX7_marksOf_97 rfl (by decide) rfl ?_
        refine xj_goto (tgt := 4) dX7_marksOf_100 rfl ?_
        first
        | (rw [bor_zero (by omega)]
           rw [← bs_f (by show agr S g j = false; rw [hagr]; exact bl_z c_85)] at ih
           exact xj_sub (by repeat (first | exact subL_nil | apply subL_none | apply subL_some rfl)) ih)
        | (rw [← bs_t (by show agr S g j = true; rw [hagr]; exact bl_nz c_85) (by omega)] at ih
           exact xj_sub (by repeat (first | exact subL_nil | apply subL_none | apply subL_some rfl)) ih)
      · -- 88
        refine xj_iconst (pc2 := 89) dX7_marksOf_88 rfl ?_
        refine xj_iload_n (pc2 := 90) dX7_marksOf_89 rfl rfl rfl ?_
        refine xj_ishl (pc2 := 91) dX7_marksOf_90 rfl ?_
        refine xj_goto (tgt := 95) dX7_marksOf_91 rfl ?_
        refine xj_ior (pc2 := 96) dX7_marksOf_95 rfl ?_
        refine xj_istore2 (pc2 := 97) dX7_marksOf_96 rfl rfl (by decide) rfl ?_
        refine xj_iinc3 (pc2 := 100) dX7_marksOf_97 rfl (by decide) rfl ?_
        refine xj_goto (tgt := 4) dX7_marksOf_100 rfl ?_
        first
        | (rw [bor_zero (by omega)]
           rw [← bs_f (by show agr S g j = false; rw [hagr]; exact bl_z c_85)] at ih
           exact xj_sub (by repeat (first | exact subL_nil | apply subL_none | apply subL_some rfl)) ih)
        | (rw [← bs_t (by show agr S g j = true; rw [hagr]; exact bl_nz c_85) (by omega)] at ih
           exact xj_sub (by repeat (first | exact subL_nil | apply subL_none | apply subL_some rfl)) ih)
    · intro i hi ihi
      have hwi := wf_i hW (i := (i : Int)) (by omega)
      have hbr := bl_rg (allb (agP S g j) i)
      have hag := agez_rg (a := S 2 g + S 8 i) (by omega)
      have htr := temperZ_rg (k := S 0 g) (m := (j : Int)) (a := agez (S 2 g + S 8 i)) (by omega) hag.1
      have e1 : allb (agP S g j) (i + 1) = (allb (agP S g j) i && agP S g j i) := rfl
      rw [e1] at ihi
      refine xj_iload (pc2 := 18) dX7_marksOf_16 rfl rfl ?_
      refine xj_aload_n (pc2 := 19) dX7_marksOf_18 rfl rfl rfl ?_
      refine xj_getI (pc2 := 22) (kz := 11) fok_X7_125 dX7_marksOf_19 rfl rfl rfl (by decide) rfl (by first | assumption | rfl) ?_
      refine xj_cmp_ge (pc2 := 25) (tgt := 82) dX7_marksOf_22 rfl rfl (by omega) (by omega) (fun c_22 => by exfalso; omega) (fun c_22 => ?_)
      refine xj_iload (pc2 := 27) dX7_marksOf_25 rfl rfl ?_
      refine xj_if_eq (pc2 := 30) (tgt := 73) dX7_marksOf_27 rfl rfl (by omega) (fun c_27 => ?_) (fun c_27 => ?_)
      · -- 73
        refine xj_iconst (pc2 := 74) dX7_marksOf_73 rfl ?_
        refine xj_istore4 (pc2 := 76) dX7_marksOf_74 rfl (by decide) rfl ?_
        refine xj_iinc5 (pc2 := 79) dX7_marksOf_76 rfl (by decide) rfl ?_
        refine xj_goto (tgt := 16) dX7_marksOf_79 rfl ?_
        first
        | (rw [bl_z c_27, Bool.false_and] at ihi; exact ihi)
        | (rw [bl_nz c_27, Bool.true_and, show agP S g j i = true from decide_eq_true (fun q => by first | assumption | exact absurd q (by assumption))] at ihi; exact ihi)
        | (rw [bl_nz c_27, Bool.true_and, show agP S g j i = false from decide_eq_false (fun q => by first | contradiction | exact absurd (q (by omega)) (by assumption))] at ihi; exact ihi)
      · -- 30
        refine xj_aload_n (pc2 := 31) dX7_marksOf_30 rfl rfl rfl ?_
        refine xj_getRn (pc2 := 34) (c2 := 157) fok_X7_28 dX7_marksOf_31 rfl rfl rfl rfl rfl ?_
        refine xj_iload (pc2 := 36) dX7_marksOf_34 rfl rfl ?_
        refine xj_iald (pc2 := 37) dX7_marksOf_36 rfl rfl (by omega) (by omega) (mE _ (by omega) (by omega)).1 ?_
        refine xj_iload_n (pc2 := 38) dX7_marksOf_37 rfl rfl rfl ?_
        refine xj_cmp_ne (pc2 := 41) (tgt := 69) dX7_marksOf_38 rfl rfl (by omega) (by omega) (fun c_38 => ?_) (fun c_38 => ?_)
        · -- 69
          refine xj_iconst (pc2 := 70) dX7_marksOf_69 rfl ?_
          refine xj_goto (tgt := 74) dX7_marksOf_70 rfl ?_
          refine xj_istore4 (pc2 := 76) dX7_marksOf_74 rfl (by decide) rfl ?_
          refine xj_iinc5 (pc2 := 79) dX7_marksOf_76 rfl (by decide) rfl ?_
          refine xj_goto (tgt := 16) dX7_marksOf_79 rfl ?_
          first
          | (rw [bl_z c_27, Bool.false_and] at ihi; exact ihi)
          | (rw [bl_nz c_27, Bool.true_and, show agP S g j i = true from decide_eq_true (fun q => by first | assumption | exact absurd q (by assumption))] at ihi; exact ihi)
          | (rw [bl_nz c_27, Bool.true_and, show agP S g j i = false from decide_eq_false (fun q => by first | contradiction | exact absurd (q (by omega)) (by assumption))] at ihi; exact ihi)
        · -- 41
          refine xj_aload_n (pc2 := 42) dX7_marksOf_41 rfl rfl rfl ?_
          refine xj_iload_n (pc2 := 43) dX7_marksOf_42 rfl rfl rfl ?_
          refine xj_iload_n (pc2 := 44) dX7_marksOf_43 rfl rfl rfl ?_
          refine xj_aload_n (pc2 := 45) dX7_marksOf_44 rfl rfl rfl ?_
          refine xj_iload_n (pc2 := 46) dX7_marksOf_45 rfl rfl rfl ?_
          refine xj_aload_n (pc2 := 47) dX7_marksOf_46 rfl rfl rfl ?_
          refine xj_getRn (pc2 := 50) (c2 := 158) fok_X7_31 dX7_marksOf_47 rfl rfl rfl rfl rfl ?_
          refine xj_iload (pc2 := 52) dX7_marksOf_50 rfl rfl ?_
          refine xj_iald (pc2 := 53) dX7_marksOf_52 rfl rfl (by omega) (by omega) (mE _ (by omega) (by omega)).2.1 ?_
          refine xj_V2I (pc2 := 56) (d2 := 0) mok_X7_aged ml_X7_128 ima_yX7_aged sel_yX7_aged rfl rfl dX7_marksOf_53 rfl rfl (by decide) (by decide) (Nat.le_of_ble_eq_true rfl) (fun _ => rfl) ?_
          refine c_X7_aged hM hW (by omega) (by omega) ?_
          refine xj_V3I (pc2 := 59) (d2 := 0) mok_X7_temperBy ml_X7_132 ima_yX7_temperBy sel_yX7_temperBy rfl rfl dX7_marksOf_56 rfl rfl (by decide) (by decide) (Nat.le_of_ble_eq_true rfl) (fun _ => rfl) ?_
          refine c_X7_temperBy hM hW (by omega) (by omega) (by omega) ?_
          refine xj_aload_n (pc2 := 60) dX7_marksOf_59 rfl rfl rfl ?_
          refine xj_getRn (pc2 := 63) (c2 := 159) fok_X7_34 dX7_marksOf_60 rfl rfl rfl rfl rfl ?_
          refine xj_iload (pc2 := 65) dX7_marksOf_63 rfl rfl ?_
          refine xj_iald (pc2 := 66) dX7_marksOf_65 rfl rfl (by omega) (by omega) (mE _ (by omega) (by omega)).2.2 ?_
          refine xj_cmp_ne (pc2 := 69) (tgt := 73) dX7_marksOf_66 rfl rfl (by omega) (by omega) (fun c_66 => ?_) (fun c_66 => ?_)
          · -- 73
            refine xj_iconst (pc2 := 74) dX7_marksOf_73 rfl ?_
            refine xj_istore4 (pc2 := 76) dX7_marksOf_74 rfl (by decide) rfl ?_
            refine xj_iinc5 (pc2 := 79) dX7_marksOf_76 rfl (by decide) rfl ?_
            refine xj_goto (tgt := 16) dX7_marksOf_79 rfl ?_
            first
            | (rw [bl_z c_27, Bool.false_and] at ihi; exact ihi)
            | (rw [bl_nz c_27, Bool.true_and, show agP S g j i = true from decide_eq_true (fun q => by first | assumption | exact absurd q (by assumption))] at ihi; exact ihi)
            | (rw [bl_nz c_27, Bool.true_and, show agP S g j i = false from decide_eq_false (fun q => by first | contradiction | exact absurd (q (by omega)) (by assumption))] at ihi; exact ihi)
          · -- 69
            refine xj_iconst (pc2 := 70) dX7_marksOf_69 rfl ?_
            refine xj_goto (tgt := 74) dX7_marksOf_70 rfl ?_
            refine xj_istore4 (pc2 := 76) dX7_marksOf_74 rfl (by decide) rfl ?_
            refine xj_iinc5 (pc2 := 79) dX7_marksOf_76 rfl (by decide) rfl ?_
            refine xj_goto (tgt := 16) dX7_marksOf_79 rfl ?_
            first
            | (rw [bl_z c_27, Bool.false_and] at ihi; exact ihi)
            | (rw [bl_nz c_27, Bool.true_and, show agP S g j i = true from decide_eq_true (fun q => by first | assumption | exact absurd q (by assumption))] at ihi; exact ihi)
            | (rw [bl_nz c_27, Bool.true_and, show agP S g j i = false from decide_eq_false (fun q => by first | contradiction | exact absurd (q (by omega)) (by assumption))] at ihi; exact ihi)
def wP (S : Sh) (g m p : Int) (a : Nat) : Nat → Bool := fun b => memb p a && tcP S g m p (temperZ (S 0 g) a (agez (S 2 g + m))) b
def wsz (S : Sh) (g m p : Int) : Nat → Int
  | 0 => 0
  | a + 1 => max (wsz S g m p a) (cntz (wP S g m p a) 10)
theorem wsz_rg (S : Sh) (g m p : Int) : ∀ n, 0 ≤ wsz S g m p n ∧ wsz S g m p n ≤ 10
  | 0 => by simp [wsz]
  | n + 1 => by
    have h1 := wsz_rg S g m p n
    have h2 := cntz_rg (q := wP S g m p n) 10
    unfold wsz
    omega
theorem mlz_mono (S : Sh) (g m p : Int) (n : Nat) : mlz S g m p n ≤ mlz S g m p (n + 1) := by
  rw [mlz]
  split <;> omega
theorem tc_le (S : Sh) (g m p x : Int) : ∀ n, cntz (tcP S g m p x) n ≤ mlz S g m p n
  | 0 => by simp [cntz, mlz]
  | n + 1 => by
    have ih := tc_le S g m p x n
    have hm := mlz_mono S g m p n
    by_cases q : tcP S g m p x n = true
    · rw [cntz_t q]
      have q2 := q
      unfold tcP at q2
      rw [Bool.and_eq_true, decide_eq_true_eq] at q2
      rw [mlz, if_pos q2.1, q2.2]
      omega
    · rw [cntz_f (by simpa using q)]
      omega
theorem cntz_mono {q : Nat → Bool} {n : Nat} : ∀ k, cntz q n ≤ cntz q (n + k)
  | 0 => Int.le_refl _
  | k + 1 => by
    have := cntz_mono (q := q) (n := n) k
    rw [show n + (k + 1) = (n + k) + 1 from rfl, cntz]
    split <;> omega
theorem wsz_ge (S : Sh) (g m p : Int) {a : Nat} : ∀ n, a < n → cntz (wP S g m p a) 10 ≤ wsz S g m p n
  | 0, h => by omega
  | n + 1, h => by
    unfold wsz
    by_cases e : a = n
    · subst e; omega
    · have := wsz_ge S g m p n (a := a) (by omega)
      omega
theorem wsz_le (S : Sh) (g m p : Int) : ∀ n, wsz S g m p n ≤ mlz S g m p 10
  | 0 => by have := mlz_rg S g m p 10; unfold wsz; omega
  | n + 1 => by
    have h1 := wsz_le S g m p n
    have h2 : cntz (wP S g m p n) 10 ≤ mlz S g m p 10 := by
      by_cases q : memb p n = true
      · rw [cntz_congr (q := tcP S g m p (temperZ (S 0 g) n (agez (S 2 g + m)))) 10 (fun j _ => by unfold wP; rw [q, Bool.true_and])]
        exact tc_le S g m p _ 10
      · rw [cntz_congr (q := fun _ => false) 10 (fun j _ => by unfold wP; rw [show memb p n = false by simpa using q, Bool.false_and])]
        have := mlz_rg S g m p 10
        have e : cntz (fun _ => false) 10 = 0 := rfl
        omega
    unfold wsz
    omega
theorem mlz_wsz (S : Sh) (g m p : Int) : ∀ n, n ≤ 10 → mlz S g m p n ≤ wsz S g m p 10
  | 0, _ => by have := wsz_rg S g m p 10; unfold mlz; omega
  | n + 1, hn => by
    have h1 := mlz_wsz S g m p n (by omega)
    unfold mlz
    split
    · rename_i q
      have h2 := wsz_ge S g m p (a := n) 10 (by omega)
      rw [cntz_congr (q := tcP S g m p (temperZ (S 0 g) n (agez (S 2 g + m)))) 10 (fun j _ => by unfold wP; rw [q, Bool.true_and])] at h2
      have h3 := cntz_mono (q := tcP S g m p (temperZ (S 0 g) n (agez (S 2 g + m)))) (n := n + 1) (10 - (n + 1))
      rw [show n + 1 + (10 - (n + 1)) = 10 by omega, cntz_t (by unfold tcP; rw [q, Bool.true_and]; exact decide_eq_true rfl)] at h3
      omega
    · exact h1
theorem wsz_mlz (S : Sh) (g m p : Int) : wsz S g m p 10 = mlz S g m p 10 := by
  have h1 := wsz_le S g m p 10
  have h2 := mlz_wsz S g m p 10 (by omega)
  omega
theorem c_X7_worstBy {S : Sh} {g p m : Int} {h : Hp} {Q : Int → Hp → Prop} (hM : RM S h) (hW : WF S) (hg : 0 ≤ g ∧ g < S 6 0) (hp : 0 ≤ p ∧ p < 1024) (hm : 0 ≤ m ∧ m ≤ 9) (hq : Q (mlz S g m p 10) h) : CJ 1 kX7_worstBy [.ref 9, vi g, vi p, vi m] h Q := by
  obtain ⟨⟨hn, hw, hh, hs⟩, mG, mN, mE⟩ := id hM
  have hnn := wf_n hW
  have hwg := wf_g hW hg
  have hag := agez_rg (a := S 2 g + m) (by omega)
  rw [← wsz_mlz] at hq
  refine cj_of (lo := [some (.ref 9), some (vi g), some (vi p), some (vi m), none, none, none, none]) mok_X7_worstBy (fun _ => rfl) (fun _ => Nat.le_of_ble_eq_true rfl) ?_
  refine xj_iconst (pc2 := 1) dX7_worstBy_0 rfl ?_
  refine xj_istore4 (pc2 := 3) dX7_worstBy_1 rfl (by decide) rfl ?_
  refine xj_iconst (pc2 := 4) dX7_worstBy_3 rfl ?_
  refine xj_istore5 (pc2 := 6) dX7_worstBy_4 rfl (by decide) rfl ?_
  refine down (P := fun j => XJ none 1 kX7_worstBy h 6 [some (.ref 9), some (vi g), some (vi p), some (vi m), some (vi (wsz S g m p j)), some (vi j), none, none] [] Q) (n := 10) ?_ ?_
  · refine xj_iload (pc2 := 8) dX7_worstBy_6 rfl rfl ?_
    refine xj_bipush (pc2 := 10) dX7_worstBy_8 rfl (by decide) ?_
    refine xj_cmp_gt (pc2 := 13) (tgt := 111) dX7_worstBy_10 rfl rfl (by omega) (by omega) (fun c_10 => ?_) (fun c_10 => by exfalso; omega)
    refine xj_iload (pc2 := 113) dX7_worstBy_111 rfl rfl ?_
    refine xj_iret dX7_worstBy_113 rfl ?_
    exact hq
  · intro j hj ih
    have hwr := wsz_rg S g m p j
    have htj := temperZ_rg (k := S 0 g) (m := (j : Int)) (a := agez (S 2 g + m)) (by omega) hag.1
    refine xj_iload (pc2 := 8) dX7_worstBy_6 rfl rfl ?_
    refine xj_bipush (pc2 := 10) dX7_worstBy_8 rfl (by decide) ?_
    refine xj_cmp_gt (pc2 := 13) (tgt := 111) dX7_worstBy_10 rfl rfl (by omega) (by omega) (fun c_10 => by exfalso; omega) (fun c_10 => ?_)
    refine xj_iconst (pc2 := 14) dX7_worstBy_13 rfl ?_
    refine xj_istore6 (pc2 := 16) dX7_worstBy_14 rfl (by decide) rfl ?_
    refine xj_iconst (pc2 := 17) dX7_worstBy_16 rfl ?_
    refine xj_istore7 (pc2 := 19) dX7_worstBy_17 rfl (by decide) rfl ?_
    refine down (P := fun i => XJ none 1 kX7_worstBy h 19 [some (.ref 9), some (vi g), some (vi p), some (vi m), some (vi (wsz S g m p j)), some (vi j), some (vi (cntz (wP S g m p j) i)), some (vi i)] [] Q) (n := 10) ?_ ?_
    · have hcr := cntz_rg (q := wP S g m p j) 10
      refine xj_iload (pc2 := 21) dX7_worstBy_19 rfl rfl ?_
      refine xj_bipush (pc2 := 23) dX7_worstBy_21 rfl (by decide) ?_
      refine xj_cmp_gt (pc2 := 26) (tgt := 89) dX7_worstBy_23 rfl rfl (by omega) (by omega) (fun c_23 => ?_) (fun c_23 => by exfalso; omega)
      refine xj_iload (pc2 := 91) dX7_worstBy_89 rfl rfl ?_
      refine xj_iload (pc2 := 93) dX7_worstBy_91 rfl rfl ?_
      refine xj_cmp_le (pc2 := 96) (tgt := 101) dX7_worstBy_93 rfl rfl (by omega) (by omega) (fun c_93 => ?_) (fun c_93 => ?_)
      · -- 101
        refine xj_iload (pc2 := 103) dX7_worstBy_101 rfl rfl ?_
        refine xj_istore4 (pc2 := 105) dX7_worstBy_103 rfl (by decide) rfl ?_
        refine xj_iinc5 (pc2 := 108) dX7_worstBy_105 rfl (by decide) rfl ?_
        refine xj_goto (tgt := 6) dX7_worstBy_108 rfl ?_
        first
        | (rw [show wsz S g m p (j + 1) = wsz S g m p j by show max _ _ = _; omega] at ih
           exact xj_sub (by repeat (first | exact subL_nil | apply subL_none | apply subL_some rfl)) ih)
        | (rw [show wsz S g m p (j + 1) = cntz (wP S g m p j) 10 by show max _ _ = _; omega] at ih
           exact xj_sub (by repeat (first | exact subL_nil | apply subL_none | apply subL_some rfl)) ih)
      · -- 96
        refine xj_iload (pc2 := 98) dX7_worstBy_96 rfl rfl ?_
        refine xj_goto (tgt := 103) dX7_worstBy_98 rfl ?_
        refine xj_istore4 (pc2 := 105) dX7_worstBy_103 rfl (by decide) rfl ?_
        refine xj_iinc5 (pc2 := 108) dX7_worstBy_105 rfl (by decide) rfl ?_
        refine xj_goto (tgt := 6) dX7_worstBy_108 rfl ?_
        first
        | (rw [show wsz S g m p (j + 1) = wsz S g m p j by show max _ _ = _; omega] at ih
           exact xj_sub (by repeat (first | exact subL_nil | apply subL_none | apply subL_some rfl)) ih)
        | (rw [show wsz S g m p (j + 1) = cntz (wP S g m p j) 10 by show max _ _ = _; omega] at ih
           exact xj_sub (by repeat (first | exact subL_nil | apply subL_none | apply subL_some rfl)) ih)
    · intro i hi ihi
      have hti := temperZ_rg (k := S 0 g) (m := (i : Int)) (a := agez (S 2 g + m)) (by omega) hag.1
      have hcr := cntz_rg (q := wP S g m p j) i
      have es : cntz (wP S g m p j) (i + 1) = cntz (wP S g m p j) i + (if wP S g m p j i = true then 1 else 0) := rfl
      rw [es] at ihi
      refine xj_iload (pc2 := 21) dX7_worstBy_19 rfl rfl ?_
      refine xj_bipush (pc2 := 23) dX7_worstBy_21 rfl (by decide) ?_
      refine xj_cmp_gt (pc2 := 26) (tgt := 89) dX7_worstBy_23 rfl rfl (by omega) (by omega) (fun c_23 => by exfalso; omega) (fun c_23 => ?_)
      refine xj_iload (pc2 := 28) dX7_worstBy_26 rfl rfl ?_
      refine xj_iload_n (pc2 := 29) dX7_worstBy_28 rfl rfl rfl ?_
      refine xj_iload (pc2 := 31) dX7_worstBy_29 rfl rfl ?_
      refine xj_S2I (pc2 := 34) (d2 := 0) mok_X7_isIn ml_X7_139 sta_yX7_isIn dX7_worstBy_31 rfl rfl (by decide) (by decide) (Nat.le_of_ble_eq_true rfl) (fun _ => rfl) ?_
      refine c_X7_isIn (by omega) (by omega) ?_ ?_
      · -- X7_isIn = 1
        intro c_31
        refine xj_if_eq (pc2 := 37) (tgt := 79) dX7_worstBy_34 rfl rfl (by omega) (fun c_34 => absurd c_34 (by decide)) (fun c_34 => ?_)
        refine xj_iload_n (pc2 := 38) dX7_worstBy_37 rfl rfl rfl ?_
        refine xj_iload (pc2 := 40) dX7_worstBy_38 rfl rfl ?_
        refine xj_S2I (pc2 := 43) (d2 := 0) mok_X7_isIn ml_X7_139 sta_yX7_isIn dX7_worstBy_40 rfl rfl (by decide) (by decide) (Nat.le_of_ble_eq_true rfl) (fun _ => rfl) ?_
        refine c_X7_isIn (by omega) (by omega) ?_ ?_
        · -- X7_isIn = 1
          intro c_40
          refine xj_if_eq (pc2 := 46) (tgt := 79) dX7_worstBy_43 rfl rfl (by omega) (fun c_43 => absurd c_43 (by decide)) (fun c_43 => ?_)
          refine xj_aload_n (pc2 := 47) dX7_worstBy_46 rfl rfl rfl ?_
          refine xj_iload_n (pc2 := 48) dX7_worstBy_47 rfl rfl rfl ?_
          refine xj_iload (pc2 := 50) dX7_worstBy_48 rfl rfl ?_
          refine xj_aload_n (pc2 := 51) dX7_worstBy_50 rfl rfl rfl ?_
          refine xj_iload_n (pc2 := 52) dX7_worstBy_51 rfl rfl rfl ?_
          refine xj_iload_n (pc2 := 53) dX7_worstBy_52 rfl rfl rfl ?_
          refine xj_V2I (pc2 := 56) (d2 := 0) mok_X7_aged ml_X7_128 ima_yX7_aged sel_yX7_aged rfl rfl dX7_worstBy_53 rfl rfl (by decide) (by decide) (Nat.le_of_ble_eq_true rfl) (fun _ => rfl) ?_
          refine c_X7_aged hM hW (by omega) (by omega) ?_
          refine xj_V3I (pc2 := 59) (d2 := 0) mok_X7_temperBy ml_X7_132 ima_yX7_temperBy sel_yX7_temperBy rfl rfl dX7_worstBy_56 rfl rfl (by decide) (by decide) (Nat.le_of_ble_eq_true rfl) (fun _ => rfl) ?_
          refine c_X7_temperBy hM hW (by omega) (by omega) (by omega) ?_
          refine xj_aload_n (pc2 := 60) dX7_worstBy_59 rfl rfl rfl ?_
          refine xj_iload_n (pc2 := 61) dX7_worstBy_60 rfl rfl rfl ?_
          refine xj_iload (pc2 := 63) dX7_worstBy_61 rfl rfl ?_
          refine xj_aload_n (pc2 := 64) dX7_worstBy_63 rfl rfl rfl ?_
          refine xj_iload_n (pc2 := 65) dX7_worstBy_64 rfl rfl rfl ?_
          refine xj_iload_n (pc2 := 66) dX7_worstBy_65 rfl rfl rfl ?_
          refine xj_V2I (pc2 := 69) (d2 := 0) mok_X7_aged ml_X7_128 ima_yX7_aged sel_yX7_aged rfl rfl dX7_worstBy_66 rfl rfl (by decide) (by decide) (Nat.le_of_ble_eq_true rfl) (fun _ => rfl) ?_
          refine c_X7_aged hM hW (by omega) (by omega) ?_
          refine xj_V3I (pc2 := 72) (d2 := 0) mok_X7_temperBy ml_X7_132 ima_yX7_temperBy sel_yX7_temperBy rfl rfl dX7_worstBy_69 rfl rfl (by decide) (by decide) (Nat.le_of_ble_eq_true rfl) (fun _ => rfl) ?_
          refine c_X7_temperBy hM hW (by omega) (by omega) (by omega) ?_
          refine xj_cmp_ne (pc2 := 75) (tgt := 79) dX7_worstBy_72 rfl rfl (by omega) (by omega) (fun c_72 => ?_) (fun c_72 => ?_)
          · -- 79
            refine xj_iconst (pc2 := 80) dX7_worstBy_79 rfl ?_
            refine xj_iadd (pc2 := 81) dX7_worstBy_80 rfl ?_
            refine xj_istore6 (pc2 := 83) dX7_worstBy_81 rfl (by decide) rfl ?_
            refine xj_iinc7 (pc2 := 86) dX7_worstBy_83 rfl (by decide) rfl ?_
            refine xj_goto (tgt := 19) dX7_worstBy_86 rfl ?_
            first
            | (rw [if_neg (by unfold wP tcP; rw [Bool.and_eq_true, Bool.and_eq_true, decide_eq_true_eq, memb_iff, memb_iff]; rintro ⟨q1, q2, q3⟩; first | exact c_31 q1 | exact c_40 q2 | omega)] at ihi; exact ihi)
            | (rw [if_pos (by unfold wP tcP; rw [Bool.and_eq_true, Bool.and_eq_true, decide_eq_true_eq, memb_iff, memb_iff]; exact ⟨c_31, c_40, by omega⟩)] at ihi; exact ihi)
          · -- 75
            refine xj_iconst (pc2 := 76) dX7_worstBy_75 rfl ?_
            refine xj_goto (tgt := 80) dX7_worstBy_76 rfl ?_
            refine xj_iadd (pc2 := 81) dX7_worstBy_80 rfl ?_
            refine xj_istore6 (pc2 := 83) dX7_worstBy_81 rfl (by decide) rfl ?_
            refine xj_iinc7 (pc2 := 86) dX7_worstBy_83 rfl (by decide) rfl ?_
            refine xj_goto (tgt := 19) dX7_worstBy_86 rfl ?_
            first
            | (rw [if_neg (by unfold wP tcP; rw [Bool.and_eq_true, Bool.and_eq_true, decide_eq_true_eq, memb_iff, memb_iff]; rintro ⟨q1, q2, q3⟩; first | exact c_31 q1 | exact c_40 q2 | omega)] at ihi; exact ihi)
            | (rw [if_pos (by unfold wP tcP; rw [Bool.and_eq_true, Bool.and_eq_true, decide_eq_true_eq, memb_iff, memb_iff]; exact ⟨c_31, c_40, by omega⟩)] at ihi; exact ihi)
        · -- X7_isIn = 0
          intro c_40
          refine xj_if_eq (pc2 := 46) (tgt := 79) dX7_worstBy_43 rfl rfl (by omega) (fun c_43 => ?_) (fun c_43 => absurd c_43 (by decide))
          refine xj_iconst (pc2 := 80) dX7_worstBy_79 rfl ?_
          refine xj_iadd (pc2 := 81) dX7_worstBy_80 rfl ?_
          refine xj_istore6 (pc2 := 83) dX7_worstBy_81 rfl (by decide) rfl ?_
          refine xj_iinc7 (pc2 := 86) dX7_worstBy_83 rfl (by decide) rfl ?_
          refine xj_goto (tgt := 19) dX7_worstBy_86 rfl ?_
          first
          | (rw [if_neg (by unfold wP tcP; rw [Bool.and_eq_true, Bool.and_eq_true, decide_eq_true_eq, memb_iff, memb_iff]; rintro ⟨q1, q2, q3⟩; first | exact c_31 q1 | exact c_40 q2 | omega)] at ihi; exact ihi)
          | (rw [if_pos (by unfold wP tcP; rw [Bool.and_eq_true, Bool.and_eq_true, decide_eq_true_eq, memb_iff, memb_iff]; exact ⟨c_31, c_40, by omega⟩)] at ihi; exact ihi)
      · -- X7_isIn = 0
        intro c_31
        refine xj_if_eq (pc2 := 37) (tgt := 79) dX7_worstBy_34 rfl rfl (by omega) (fun c_34 => ?_) (fun c_34 => absurd c_34 (by decide))
        refine xj_iconst (pc2 := 80) dX7_worstBy_79 rfl ?_
        refine xj_iadd (pc2 := 81) dX7_worstBy_80 rfl ?_
        refine xj_istore6 (pc2 := 83) dX7_worstBy_81 rfl (by decide) rfl ?_
        refine xj_iinc7 (pc2 := 86) dX7_worstBy_83 rfl (by decide) rfl ?_
        refine xj_goto (tgt := 19) dX7_worstBy_86 rfl ?_
        first
        | (rw [if_neg (by unfold wP tcP; rw [Bool.and_eq_true, Bool.and_eq_true, decide_eq_true_eq, memb_iff, memb_iff]; rintro ⟨q1, q2, q3⟩; first | exact c_31 q1 | exact c_40 q2 | omega)] at ihi; exact ihi)
        | (rw [if_pos (by unfold wP tcP; rw [Bool.and_eq_true, Bool.and_eq_true, decide_eq_true_eq, memb_iff, memb_iff]; exact ⟨c_31, c_40, by omega⟩)] at ihi; exact ihi)
theorem c_X7_feelFor {S : Sh} {g : Int} {h : Hp} {Q : Int → Hp → Prop} (hM : RM S h) (hW : WF S) (hg : 0 ≤ g ∧ g < S 6 0) (hq : Q (bfZ S g) h) : CJ 2 kX7_feelFor [.ref 9, vi g] h Q := by
  have hnn := wf_n hW
  have hpm : 0 ≤ pmZ S g ∧ pmZ S g < 1024 := bsum_le (by decide)
  unfold bfZ at hq
  refine cj_of (lo := [some (.ref 9), some (vi g), none, none, none, none, none]) mok_X7_feelFor (fun _ => rfl) (fun _ => Nat.le_of_ble_eq_true rfl) ?_
  refine xj_aload_n (pc2 := 1) dX7_feelFor_0 rfl rfl rfl ?_
  refine xj_iload_n (pc2 := 2) dX7_feelFor_1 rfl rfl rfl ?_
  refine xj_V1I (pc2 := 5) (d2 := 1) mok_X7_marksOf ml_X7_158 ima_yX7_marksOf sel_yX7_marksOf rfl rfl dX7_feelFor_2 rfl rfl (by decide) (by decide) (Nat.le_of_ble_eq_true rfl) (fun _ => rfl) ?_
  refine c_X7_marksOf hM hW (by omega) ?_
  refine xj_istore2 (pc2 := 6) dX7_feelFor_5 rfl rfl (by decide) rfl ?_
  refine xj_iconst (pc2 := 7) dX7_feelFor_6 rfl ?_
  refine xj_istore3 (pc2 := 8) dX7_feelFor_7 rfl rfl (by decide) rfl ?_
  refine xj_ldc (pc2 := 10) (n := 268435456) dX7_feelFor_8 rfl k_X7_200 rfl ?_
  refine xj_istore4 (pc2 := 12) dX7_feelFor_10 rfl (by decide) rfl ?_
  refine xj_iconst (pc2 := 13) dX7_feelFor_12 rfl ?_
  refine xj_istore5 (pc2 := 15) dX7_feelFor_13 rfl (by decide) rfl ?_
  by_cases hp0 : pmZ S g = 0
  · rw [if_pos hp0] at hq
    refine xj_iload (pc2 := 17) dX7_feelFor_15 rfl rfl ?_
    refine xj_bipush (pc2 := 19) dX7_feelFor_17 rfl (by decide) ?_
    refine xj_cmp_gt (pc2 := 22) (tgt := 72) dX7_feelFor_19 rfl rfl (by omega) (by omega) (fun c_19 => absurd c_19 (by decide)) (fun c_19 => ?_)
    refine xj_iload_n (pc2 := 23) dX7_feelFor_22 rfl rfl rfl ?_
    refine xj_if_eq (pc2 := 26) (tgt := 72) dX7_feelFor_23 rfl rfl (by omega) (fun c_23 => ?_) (fun c_23 => by exfalso; omega)
    refine xj_iload_n (pc2 := 73) dX7_feelFor_72 rfl rfl rfl ?_
    refine xj_iret dX7_feelFor_73 rfl ?_
    exact hq
  rw [if_neg hp0] at hq
  refine down (P := fun j => ∀ b l : Int, ((j = 0 ∧ b = -1 ∧ l = 268435456) ∨ (1 ≤ j ∧ b = (it (bfF S g) (0, 11) j).1 ∧ l = (it (bfF S g) (0, 11) j).2)) → XJ none 2 kX7_feelFor h 15 [some (.ref 9), some (vi g), some (vi (pmZ S g)), some (vi b), some (vi l), some (vi j), none] [] Q) (n := 10) ?_ ?_ (-1) 268435456 (Or.inl ⟨rfl, rfl, rfl⟩)
  · intro b l hbl
    refine xj_iload (pc2 := 17) dX7_feelFor_15 rfl rfl ?_
    refine xj_bipush (pc2 := 19) dX7_feelFor_17 rfl (by decide) ?_
    refine xj_cmp_gt (pc2 := 22) (tgt := 72) dX7_feelFor_19 rfl rfl (by omega) (by omega) (fun c_19 => ?_) (fun c_19 => by exfalso; omega)
    refine xj_iload_n (pc2 := 73) dX7_feelFor_72 rfl rfl rfl ?_
    refine xj_iret dX7_feelFor_73 rfl ?_
    exact q_eq (by omega) hq
  · intro j hj ih b l hbl
    have hrr := bfF_rg S g j
    have hml := mlz_rg S g j (pmZ S g) 10
    have key : (mlz S g j (pmZ S g) 10 < l → it (bfF S g) (0, 11) (j + 1) = ((j : Int), mlz S g j (pmZ S g) 10)) ∧ (¬ mlz S g j (pmZ S g) 10 < l → it (bfF S g) (0, 11) (j + 1) = (b, l)) := by
      have e0 : it (bfF S g) (0, 11) (j + 1) = if mlz S g j (pmZ S g) 10 < (it (bfF S g) (0, 11) j).2 then ((j : Int), mlz S g j (pmZ S g) 10) else it (bfF S g) (0, 11) j := rfl
      rw [e0]
      rcases hbl with ⟨q1, q2, q3⟩ | ⟨q1, q2, q3⟩
      · subst q1
        refine ⟨fun _ => if_pos (by show _ < (11 : Int); omega), fun q => by exfalso; omega⟩
      · rw [← q3]
        refine ⟨fun q => if_pos q, fun q => ?_⟩
        rw [if_neg q, q2, q3]
    have hbr : -1 ≤ b ∧ b ≤ 10 ∧ 0 ≤ l ∧ l ≤ 268435456 := by omega
    clear hbl
    refine xj_iload (pc2 := 17) dX7_feelFor_15 rfl rfl ?_
    refine xj_bipush (pc2 := 19) dX7_feelFor_17 rfl (by decide) ?_
    refine xj_cmp_gt (pc2 := 22) (tgt := 72) dX7_feelFor_19 rfl rfl (by omega) (by omega) (fun c_19 => by exfalso; omega) (fun c_19 => ?_)
    refine xj_iload_n (pc2 := 23) dX7_feelFor_22 rfl rfl rfl ?_
    refine xj_if_eq (pc2 := 26) (tgt := 72) dX7_feelFor_23 rfl rfl (by omega) (fun c_23 => by exfalso; omega) (fun c_23 => ?_)
    refine xj_aload_n (pc2 := 27) dX7_feelFor_26 rfl rfl rfl ?_
    refine xj_iload_n (pc2 := 28) dX7_feelFor_27 rfl rfl rfl ?_
    refine xj_iload_n (pc2 := 29) dX7_feelFor_28 rfl rfl rfl ?_
    refine xj_iload (pc2 := 31) dX7_feelFor_29 rfl rfl ?_
    refine xj_V3I (pc2 := 34) (d2 := 1) mok_X7_worstBy ml_X7_240 ima_yX7_worstBy sel_yX7_worstBy rfl rfl dX7_feelFor_31 rfl rfl (by decide) (by decide) (Nat.le_of_ble_eq_true rfl) (fun _ => rfl) ?_
    refine c_X7_worstBy hM hW (by omega) (by omega) (by omega) ?_
    refine xj_istore6 (pc2 := 36) dX7_feelFor_34 rfl (by decide) rfl ?_
    refine xj_iload (pc2 := 38) dX7_feelFor_36 rfl rfl ?_
    refine xj_iload (pc2 := 40) dX7_feelFor_38 rfl rfl ?_
    refine xj_cmp_ge (pc2 := 43) (tgt := 48) dX7_feelFor_40 rfl rfl (by omega) (by omega) (fun c_40 => ?_) (fun c_40 => ?_)
    · -- 48
      refine xj_iload_n (pc2 := 49) dX7_feelFor_48 rfl rfl rfl ?_
      refine xj_istore3 (pc2 := 50) dX7_feelFor_49 rfl rfl (by decide) rfl ?_
      refine xj_iload (pc2 := 52) dX7_feelFor_50 rfl rfl ?_
      refine xj_iload (pc2 := 54) dX7_feelFor_52 rfl rfl ?_
      refine xj_cmp_ge (pc2 := 57) (tgt := 62) dX7_feelFor_54 rfl rfl (by omega) (by omega) (fun c_54 => ?_) (fun c_54 => ?_)
      · -- 62
        refine xj_iload (pc2 := 64) dX7_feelFor_62 rfl rfl ?_
        refine xj_istore4 (pc2 := 66) dX7_feelFor_64 rfl (by decide) rfl ?_
        refine xj_iinc5 (pc2 := 69) dX7_feelFor_66 rfl (by decide) rfl ?_
        refine xj_goto (tgt := 15) dX7_feelFor_69 rfl ?_
        first
        | (exfalso; omega)
        | exact xj_sub (by repeat (first | exact subL_nil | apply subL_none | apply subL_some rfl)) (ih j (mlz S g j (pmZ S g) 10) (Or.inr ⟨by omega, by rw [key.1 (by omega)], by rw [key.1 (by omega)]⟩))
        | exact xj_sub (by repeat (first | exact subL_nil | apply subL_none | apply subL_some rfl)) (ih b l (Or.inr ⟨by omega, by rw [key.2 (by omega)], by rw [key.2 (by omega)]⟩))
      · -- 57
        refine xj_iload (pc2 := 59) dX7_feelFor_57 rfl rfl ?_
        refine xj_goto (tgt := 64) dX7_feelFor_59 rfl ?_
        refine xj_istore4 (pc2 := 66) dX7_feelFor_64 rfl (by decide) rfl ?_
        refine xj_iinc5 (pc2 := 69) dX7_feelFor_66 rfl (by decide) rfl ?_
        refine xj_goto (tgt := 15) dX7_feelFor_69 rfl ?_
        first
        | (exfalso; omega)
        | exact xj_sub (by repeat (first | exact subL_nil | apply subL_none | apply subL_some rfl)) (ih j (mlz S g j (pmZ S g) 10) (Or.inr ⟨by omega, by rw [key.1 (by omega)], by rw [key.1 (by omega)]⟩))
        | exact xj_sub (by repeat (first | exact subL_nil | apply subL_none | apply subL_some rfl)) (ih b l (Or.inr ⟨by omega, by rw [key.2 (by omega)], by rw [key.2 (by omega)]⟩))
    · -- 43
      refine xj_iload (pc2 := 45) dX7_feelFor_43 rfl rfl ?_
      refine xj_goto (tgt := 49) dX7_feelFor_45 rfl ?_
      refine xj_istore3 (pc2 := 50) dX7_feelFor_49 rfl rfl (by decide) rfl ?_
      refine xj_iload (pc2 := 52) dX7_feelFor_50 rfl rfl ?_
      refine xj_iload (pc2 := 54) dX7_feelFor_52 rfl rfl ?_
      refine xj_cmp_ge (pc2 := 57) (tgt := 62) dX7_feelFor_54 rfl rfl (by omega) (by omega) (fun c_54 => ?_) (fun c_54 => ?_)
      · -- 62
        refine xj_iload (pc2 := 64) dX7_feelFor_62 rfl rfl ?_
        refine xj_istore4 (pc2 := 66) dX7_feelFor_64 rfl (by decide) rfl ?_
        refine xj_iinc5 (pc2 := 69) dX7_feelFor_66 rfl (by decide) rfl ?_
        refine xj_goto (tgt := 15) dX7_feelFor_69 rfl ?_
        first
        | (exfalso; omega)
        | exact xj_sub (by repeat (first | exact subL_nil | apply subL_none | apply subL_some rfl)) (ih j (mlz S g j (pmZ S g) 10) (Or.inr ⟨by omega, by rw [key.1 (by omega)], by rw [key.1 (by omega)]⟩))
        | exact xj_sub (by repeat (first | exact subL_nil | apply subL_none | apply subL_some rfl)) (ih b l (Or.inr ⟨by omega, by rw [key.2 (by omega)], by rw [key.2 (by omega)]⟩))
      · -- 57
        refine xj_iload (pc2 := 59) dX7_feelFor_57 rfl rfl ?_
        refine xj_goto (tgt := 64) dX7_feelFor_59 rfl ?_
        refine xj_istore4 (pc2 := 66) dX7_feelFor_64 rfl (by decide) rfl ?_
        refine xj_iinc5 (pc2 := 69) dX7_feelFor_66 rfl (by decide) rfl ?_
        refine xj_goto (tgt := 15) dX7_feelFor_69 rfl ?_
        first
        | (exfalso; omega)
        | exact xj_sub (by repeat (first | exact subL_nil | apply subL_none | apply subL_some rfl)) (ih j (mlz S g j (pmZ S g) 10) (Or.inr ⟨by omega, by rw [key.1 (by omega)], by rw [key.1 (by omega)]⟩))
        | exact xj_sub (by repeat (first | exact subL_nil | apply subL_none | apply subL_some rfl)) (ih b l (Or.inr ⟨by omega, by rw [key.2 (by omega)], by rw [key.2 (by omega)]⟩))
theorem stF_few (S : Sh) (w : Int) : ∀ n, ((it (stF S w) (-1, 7) n).1 = -1 → (it (stF S w) (-1, 7) n).2 = 7) ∧ (¬ (it (stF S w) (-1, 7) n).1 = -1 → (it (stF S w) (-1, 7) n).2 = pc (bxor (it (stF S w) (-1, 7) n).1 (bsum (heldP S w) (nG S)))) := by
  apply it_ind (I := fun (_ : Nat) (x : Int × Int) => (x.1 = -1 → x.2 = 7) ∧ (¬ x.1 = -1 → x.2 = pc (bxor x.1 (bsum (heldP S w) (nG S)))))
  · exact ⟨fun _ => rfl, fun q => absurd rfl q⟩
  · intro j x hx
    unfold stF
    split
    · exact ⟨fun q => by dsimp only at q; omega, fun _ => rfl⟩
    · exact hx
theorem c_X7_changesNow {S : Sh} {w x : Int} {h : Hp} {Q : Int → Hp → Prop} (hM : RM S h) (hW : WF S) (hw0 : 0 ≤ w ∧ w < S 6 1) (hx : 0 ≤ x ∧ x ≤ 1) (hq : Q (if x = 1 then stZ S w else cgZ S w) h) : CJ 4 kX7_changesNow [.ref 9, vi w, vi x] h Q := by
  obtain ⟨⟨hn, hw, hh, hs⟩, mG, mN, mE⟩ := id hM
  have hnn := wf_n hW
  have hng := nG_eq hW
  have ho := bsum_le6 (p := heldP S w) (n := nG S) (by omega)
  have hpw := pow_le6 (n := nG S) (by omega)
  unfold cgZ at hq
  rw [stZ] at hq
  obtain ⟨N, hN2⟩ : ∃ N : Nat, N = 2 ^ nG S := ⟨_, rfl⟩
  rw [← hN2] at hq
  have hN3 : bshl 1 (S 6 0) = (N : Int) := by rw [← hng, bshl_one (by omega), hN2]; simp
  refine cj_of (lo := [some (.ref 9), some (vi w), some (vi x), none, none, none, none, none, none]) mok_X7_changesNow (fun _ => rfl) (fun _ => Nat.le_of_ble_eq_true rfl) ?_
  refine xj_aload_n (pc2 := 1) dX7_changesNow_0 rfl rfl rfl ?_
  refine xj_iload_n (pc2 := 2) dX7_changesNow_1 rfl rfl rfl ?_
  refine xj_V1I (pc2 := 5) (d2 := 0) mok_X7_wornBy ml_X7_146 ima_yX7_wornBy sel_yX7_wornBy rfl rfl dX7_changesNow_2 rfl rfl (by decide) (by decide) (Nat.le_of_ble_eq_true rfl) (fun _ => rfl) ?_
  refine c_X7_wornBy hM hW (by omega) ?_
  refine xj_istore3 (pc2 := 6) dX7_changesNow_5 rfl rfl (by decide) rfl ?_
  refine xj_iload_n (pc2 := 7) dX7_changesNow_6 rfl rfl rfl ?_
  refine xj_istore4 (pc2 := 9) dX7_changesNow_7 rfl (by decide) rfl ?_
  refine xj_iconst (pc2 := 10) dX7_changesNow_9 rfl ?_
  refine xj_istore5 (pc2 := 12) dX7_changesNow_10 rfl (by decide) rfl ?_
  rw [show some (vi (bsum (heldP S w) (nG S))) :: some (vi (bsum (heldP S w) (nG S))) :: some (vi 0) :: [none, none, none] = some (vi (bsum (heldP S w) (nG S))) :: some (vi (bor (bsum (heldP S w) (nG S)) (bsum (heldP S (-1)) 0))) :: some (vi 0) :: [none, none, none] by rw [show bsum (heldP S (-1)) 0 = 0 from rfl, bor_zero (by omega)]]
  refine down (P := fun j => XJ none 4 kX7_changesNow h 12 [some (.ref 9), some (vi w), some (vi x), some (vi (bsum (heldP S w) (nG S))), some (vi (bor (bsum (heldP S w) (nG S)) (bsum (heldP S (-1)) j))), some (vi j), none, none, none] [] Q) (n := nG S) ?_ ?_
  rotate_left
  · intro j hj ih
    have hwg := wf_g hW (g := (j : Int)) (by omega)
    have hbs := bsum_le6 (p := heldP S (-1)) (n := j) (by omega)
    have hbo := bor_rg ho hbs
    refine xj_iload (pc2 := 14) dX7_changesNow_12 rfl rfl ?_
    refine xj_aload_n (pc2 := 15) dX7_changesNow_14 rfl rfl rfl ?_
    refine xj_getI (pc2 := 18) (kz := 1) fok_X7_113 dX7_changesNow_15 rfl rfl rfl (by decide) rfl (by first | assumption | rfl) ?_
    refine xj_cmp_ge (pc2 := 21) (tgt := 51) dX7_changesNow_18 rfl rfl (by omega) (by omega) (fun c_18 => by exfalso; omega) (fun c_18 => ?_)
    refine xj_iload (pc2 := 23) dX7_changesNow_21 rfl rfl ?_
    refine xj_aload_n (pc2 := 24) dX7_changesNow_23 rfl rfl rfl ?_
    refine xj_getRn (pc2 := 27) (c2 := 151) fok_X7_19 dX7_changesNow_24 rfl rfl rfl rfl rfl ?_
    refine xj_iload (pc2 := 29) dX7_changesNow_27 rfl rfl ?_
    refine xj_iald (pc2 := 30) dX7_changesNow_29 rfl rfl (by omega) (by omega) (mG _ (by omega) (by omega)).2.2.2 ?_
    refine xj_iconst (pc2 := 31) dX7_changesNow_30 rfl ?_
    refine xj_cmp_ne (pc2 := 34) (tgt := 41) dX7_changesNow_31 rfl rfl (by omega) (by omega) (fun c_31 => ?_) (fun c_31 => ?_)
    · -- 41
      refine xj_iconst (pc2 := 42) dX7_changesNow_41 rfl ?_
      refine xj_ior (pc2 := 43) dX7_changesNow_42 rfl ?_
      refine xj_istore4 (pc2 := 45) dX7_changesNow_43 rfl (by decide) rfl ?_
      refine xj_iinc5 (pc2 := 48) dX7_changesNow_45 rfl (by decide) rfl ?_
      refine xj_goto (tgt := 12) dX7_changesNow_48 rfl ?_
      first
      | (rw [bor_zero (by omega)]
         rw [← bs_f (by unfold heldP; exact decide_eq_false (fun q => by have := hold_m (x := S 3 j) (by omega); omega))] at ih
         exact ih)
      | (rw [bor_as, bs_t (by unfold heldP; exact decide_eq_true ((hold_m (by omega)).mpr (by omega))) (by omega)]
         exact ih)
    · -- 34
      refine xj_iconst (pc2 := 35) dX7_changesNow_34 rfl ?_
      refine xj_iload (pc2 := 37) dX7_changesNow_35 rfl rfl ?_
      refine xj_ishl (pc2 := 38) dX7_changesNow_37 rfl ?_
      refine xj_goto (tgt := 42) dX7_changesNow_38 rfl ?_
      refine xj_ior (pc2 := 43) dX7_changesNow_42 rfl ?_
      refine xj_istore4 (pc2 := 45) dX7_changesNow_43 rfl (by decide) rfl ?_
      refine xj_iinc5 (pc2 := 48) dX7_changesNow_45 rfl (by decide) rfl ?_
      refine xj_goto (tgt := 12) dX7_changesNow_48 rfl ?_
      first
      | (rw [bor_zero (by omega)]
         rw [← bs_f (by unfold heldP; exact decide_eq_false (fun q => by have := hold_m (x := S 3 j) (by omega); omega))] at ih
         exact ih)
      | (rw [bor_as, bs_t (by unfold heldP; exact decide_eq_true ((hold_m (by omega)).mpr (by omega))) (by omega)]
         exact ih)
  · refine xj_iload (pc2 := 14) dX7_changesNow_12 rfl rfl ?_
    refine xj_aload_n (pc2 := 15) dX7_changesNow_14 rfl rfl rfl ?_
    refine xj_getI (pc2 := 18) (kz := 1) fok_X7_113 dX7_changesNow_15 rfl rfl rfl (by decide) rfl (by first | assumption | rfl) ?_
    refine xj_cmp_ge (pc2 := 21) (tgt := 51) dX7_changesNow_18 rfl rfl (by omega) (by omega) (fun c_18 => ?_) (fun c_18 => by exfalso; omega)
    refine xj_iconst (pc2 := 52) dX7_changesNow_51 rfl ?_
    refine xj_istore5 (pc2 := 54) dX7_changesNow_52 rfl (by decide) rfl ?_
    refine xj_iconst (pc2 := 55) dX7_changesNow_54 rfl ?_
    refine xj_istore6 (pc2 := 57) dX7_changesNow_55 rfl (by decide) rfl ?_
    rw [show bor (bsum (heldP S w) (nG S)) (bsum (heldP S (-1)) (nG S)) = chZ S w from rfl]
    refine down (P := fun j => XJ none 4 kX7_changesNow h 57 [some (.ref 9), some (vi w), some (vi x), some (vi (bsum (heldP S w) (nG S))), some (vi (chZ S w)), some (vi (it (stF S w) (-1, 7) j).1), some (vi j), none, none] [] Q) (n := N) ?_ ?_
    · have hrr := stF_rg S w N
      have hxb : ¬ (it (stF S w) (-1, 7) N).1 = -1 → 0 ≤ bxor (it (stF S w) (-1, 7) N).1 (bsum (heldP S w) (nG S)) ∧ bxor (it (stF S w) (-1, 7) N).1 (bsum (heldP S w) (nG S)) < 64 := fun q => bxor_rg (by omega) ho
      refine xj_iload (pc2 := 59) dX7_changesNow_57 rfl rfl ?_
      refine xj_iconst (pc2 := 60) dX7_changesNow_59 rfl ?_
      refine xj_aload_n (pc2 := 61) dX7_changesNow_60 rfl rfl rfl ?_
      refine xj_getI (pc2 := 64) (kz := 1) fok_X7_113 dX7_changesNow_61 rfl rfl rfl (by decide) rfl (by first | assumption | rfl) ?_
      refine xj_ishl (pc2 := 65) dX7_changesNow_64 rfl ?_
      rw [hN3]
      refine xj_cmp_ge (pc2 := 68) (tgt := 162) dX7_changesNow_65 rfl rfl (by omega) (by omega) (fun c_65 => ?_) (fun c_65 => by exfalso; omega)
      refine xj_iload (pc2 := 164) dX7_changesNow_162 rfl rfl ?_
      refine xj_iconst (pc2 := 165) dX7_changesNow_164 rfl ?_
      refine xj_cmp_eq (pc2 := 168) (tgt := 173) dX7_changesNow_165 rfl rfl (by omega) (by omega) (fun c_165 => ?_) (fun c_165 => ?_)
      · -- 173
        refine xj_iload (pc2 := 175) dX7_changesNow_173 rfl rfl ?_
        refine xj_goto (tgt := 185) dX7_changesNow_175 rfl ?_
        refine xj_iret dX7_changesNow_185 rfl ?_
        first
        | (rw [if_pos c_170] at hq; exact hq)
        | (by_cases e : x = 1
           · rw [if_pos e] at hq; exact hq
           · rw [if_neg e, if_pos (by omega)] at hq; exact q_eq (by omega) hq)
        | (rw [if_neg (by omega), if_neg (by omega)] at hq; exact hq)
      · -- 168
        refine xj_iload_n (pc2 := 169) dX7_changesNow_168 rfl rfl rfl ?_
        refine xj_iconst (pc2 := 170) dX7_changesNow_169 rfl ?_
        refine xj_cmp_ne (pc2 := 173) (tgt := 178) dX7_changesNow_170 rfl rfl (by omega) (by omega) (fun c_170 => ?_) (fun c_170 => ?_)
        · -- 178
          refine xj_iload (pc2 := 180) dX7_changesNow_178 rfl rfl ?_
          refine xj_iload_n (pc2 := 181) dX7_changesNow_180 rfl rfl rfl ?_
          refine xj_ixor (pc2 := 182) dX7_changesNow_181 rfl ?_
          refine xj_S1I (pc2 := 185) (d2 := 0) mok_X7_size ml_X7_194 sta_yX7_size dX7_changesNow_182 rfl rfl (by decide) (by decide) (Nat.le_of_ble_eq_true rfl) (fun _ => rfl) ?_
          refine c_X7_size (by omega) ?_
          refine xj_iret dX7_changesNow_185 rfl ?_
          first
          | (rw [if_pos c_170] at hq; exact hq)
          | (by_cases e : x = 1
             · rw [if_pos e] at hq; exact hq
             · rw [if_neg e, if_pos (by omega)] at hq; exact q_eq (by omega) hq)
          | (rw [if_neg (by omega), if_neg (by omega)] at hq; exact hq)
        · -- 173
          refine xj_iload (pc2 := 175) dX7_changesNow_173 rfl rfl ?_
          refine xj_goto (tgt := 185) dX7_changesNow_175 rfl ?_
          refine xj_iret dX7_changesNow_185 rfl ?_
          first
          | (rw [if_pos c_170] at hq; exact hq)
          | (by_cases e : x = 1
             · rw [if_pos e] at hq; exact hq
             · rw [if_neg e, if_pos (by omega)] at hq; exact q_eq (by omega) hq)
          | (rw [if_neg (by omega), if_neg (by omega)] at hq; exact hq)
    · intro j hj ih
      have hx1 := bxor_rg (a := (j : Int)) (b := bsum (heldP S w) (nG S)) (by omega) ho
      have hp6 := pc_rg6 hx1
      have hrr := stF_rg S w j
      have hfw := stF_few S w j
      have hxb : ¬ (it (stF S w) (-1, 7) j).1 = -1 → 0 ≤ bxor (it (stF S w) (-1, 7) j).1 (bsum (heldP S w) (nG S)) ∧ bxor (it (stF S w) (-1, 7) j).1 (bsum (heldP S w) (nG S)) < 64 := fun q => bxor_rg (by omega) ho
      have hp1 := pc_rg (x := (j : Int))
      have hp2 := pc_rg (x := bxor j (bsum (heldP S w) (nG S)))
      have hp3 := pc_rg (x := bxor (it (stF S w) (-1, 7) j).1 (bsum (heldP S w) (nG S)))
      have hmz := moodZ_rg hW (b := (j : Int)) (m := 0) hw0 (by decide)
      have hbr := band_rg (j : Int) (bxor (chZ S w) (-1))
      simp only [it] at ih
      generalize hA : it (stF S w) (-1, 7) j = A at ih hrr hfw hxb hp3 ⊢
      obtain ⟨best, few⟩ := A
      rw [stF] at ih
      dsimp only at ih hrr hfw hxb hp3 ⊢
      refine xj_iload (pc2 := 59) dX7_changesNow_57 rfl rfl ?_
      refine xj_iconst (pc2 := 60) dX7_changesNow_59 rfl ?_
      refine xj_aload_n (pc2 := 61) dX7_changesNow_60 rfl rfl rfl ?_
      refine xj_getI (pc2 := 64) (kz := 1) fok_X7_113 dX7_changesNow_61 rfl rfl rfl (by decide) rfl (by first | assumption | rfl) ?_
      refine xj_ishl (pc2 := 65) dX7_changesNow_64 rfl ?_
      rw [hN3]
      refine xj_cmp_ge (pc2 := 68) (tgt := 162) dX7_changesNow_65 rfl rfl (by omega) (by omega) (fun c_65 => by exfalso; omega) (fun c_65 => ?_)
      refine xj_iload (pc2 := 70) dX7_changesNow_68 rfl rfl ?_
      refine xj_iload (pc2 := 72) dX7_changesNow_70 rfl rfl ?_
      refine xj_iconst (pc2 := 73) dX7_changesNow_72 rfl ?_
      refine xj_ixor (pc2 := 74) dX7_changesNow_73 rfl ?_
      refine xj_iand (pc2 := 75) dX7_changesNow_74 rfl ?_
      refine xj_if_ne (pc2 := 78) (tgt := 91) dX7_changesNow_75 rfl rfl (by omega) (fun c_75 => ?_) (fun c_75 => ?_)
      · -- 91
        refine xj_iconst (pc2 := 92) dX7_changesNow_91 rfl ?_
        refine xj_istore7 (pc2 := 94) dX7_changesNow_92 rfl (by decide) rfl ?_
        refine xj_iload (pc2 := 96) dX7_changesNow_94 rfl rfl ?_
        refine xj_iconst (pc2 := 97) dX7_changesNow_96 rfl ?_
        refine xj_cmp_eq (pc2 := 100) (tgt := 117) dX7_changesNow_97 rfl rfl (by omega) (by omega) (fun c_97 => ?_) (fun c_97 => ?_)
        · -- 117
          refine xj_iconst (pc2 := 118) dX7_changesNow_117 rfl ?_
          refine xj_goto (tgt := 122) dX7_changesNow_118 rfl ?_
          refine xj_istore8 (pc2 := 124) dX7_changesNow_122 rfl (by decide) rfl ?_
          refine xj_iload (pc2 := 126) dX7_changesNow_124 rfl rfl ?_
          refine xj_if_eq (pc2 := 129) (tgt := 152) dX7_changesNow_126 rfl rfl (by omega) (fun c_126 => ?_) (fun c_126 => absurd c_126 (by decide))
          refine xj_iload (pc2 := 154) dX7_changesNow_152 rfl rfl ?_
          refine xj_istore5 (pc2 := 156) dX7_changesNow_154 rfl (by decide) rfl ?_
          refine xj_iinc6 (pc2 := 159) dX7_changesNow_156 rfl (by decide) rfl ?_
          refine xj_goto (tgt := 57) dX7_changesNow_159 rfl ?_
          first | (rw [if_pos ⟨⟨by assumption, by omega⟩, by omega, by omega⟩] at ih; exact xj_sub (by repeat (first | exact subL_nil | apply subL_none | apply subL_some rfl)) ih) | (rw [if_neg (fun q => by obtain ⟨⟨q1, q2⟩, q3, q4⟩ := q; first | omega | contradiction)] at ih; exact xj_sub (by repeat (first | exact subL_nil | apply subL_none | apply subL_some rfl)) ih)
        · -- 100
          refine xj_iload (pc2 := 102) dX7_changesNow_100 rfl rfl ?_
          refine xj_iload_n (pc2 := 103) dX7_changesNow_102 rfl rfl rfl ?_
          refine xj_ixor (pc2 := 104) dX7_changesNow_103 rfl ?_
          refine xj_S1I (pc2 := 107) (d2 := 0) mok_X7_size ml_X7_194 sta_yX7_size dX7_changesNow_104 rfl rfl (by decide) (by decide) (Nat.le_of_ble_eq_true rfl) (fun _ => rfl) ?_
          refine c_X7_size (by omega) ?_
          refine xj_iload (pc2 := 109) dX7_changesNow_107 rfl rfl ?_
          refine xj_iload_n (pc2 := 110) dX7_changesNow_109 rfl rfl rfl ?_
          refine xj_ixor (pc2 := 111) dX7_changesNow_110 rfl ?_
          refine xj_S1I (pc2 := 114) (d2 := 0) mok_X7_size ml_X7_194 sta_yX7_size dX7_changesNow_111 rfl rfl (by decide) (by decide) (Nat.le_of_ble_eq_true rfl) (fun _ => rfl) ?_
          refine c_X7_size (by omega) ?_
          refine xj_cmp_ge (pc2 := 117) (tgt := 121) dX7_changesNow_114 rfl rfl (by omega) (by omega) (fun c_114 => ?_) (fun c_114 => ?_)
          · -- 121
            refine xj_iconst (pc2 := 122) dX7_changesNow_121 rfl ?_
            refine xj_istore8 (pc2 := 124) dX7_changesNow_122 rfl (by decide) rfl ?_
            refine xj_iload (pc2 := 126) dX7_changesNow_124 rfl rfl ?_
            refine xj_if_eq (pc2 := 129) (tgt := 152) dX7_changesNow_126 rfl rfl (by omega) (fun c_126 => ?_) (fun c_126 => absurd c_126 (by decide))
            refine xj_iload (pc2 := 154) dX7_changesNow_152 rfl rfl ?_
            refine xj_istore5 (pc2 := 156) dX7_changesNow_154 rfl (by decide) rfl ?_
            refine xj_iinc6 (pc2 := 159) dX7_changesNow_156 rfl (by decide) rfl ?_
            refine xj_goto (tgt := 57) dX7_changesNow_159 rfl ?_
            first | (rw [if_pos ⟨⟨by assumption, by omega⟩, by omega, by omega⟩] at ih; exact xj_sub (by repeat (first | exact subL_nil | apply subL_none | apply subL_some rfl)) ih) | (rw [if_neg (fun q => by obtain ⟨⟨q1, q2⟩, q3, q4⟩ := q; first | omega | contradiction)] at ih; exact xj_sub (by repeat (first | exact subL_nil | apply subL_none | apply subL_some rfl)) ih)
          · -- 117
            refine xj_iconst (pc2 := 118) dX7_changesNow_117 rfl ?_
            refine xj_goto (tgt := 122) dX7_changesNow_118 rfl ?_
            refine xj_istore8 (pc2 := 124) dX7_changesNow_122 rfl (by decide) rfl ?_
            refine xj_iload (pc2 := 126) dX7_changesNow_124 rfl rfl ?_
            refine xj_if_eq (pc2 := 129) (tgt := 152) dX7_changesNow_126 rfl rfl (by omega) (fun c_126 => ?_) (fun c_126 => absurd c_126 (by decide))
            refine xj_iload (pc2 := 154) dX7_changesNow_152 rfl rfl ?_
            refine xj_istore5 (pc2 := 156) dX7_changesNow_154 rfl (by decide) rfl ?_
            refine xj_iinc6 (pc2 := 159) dX7_changesNow_156 rfl (by decide) rfl ?_
            refine xj_goto (tgt := 57) dX7_changesNow_159 rfl ?_
            first | (rw [if_pos ⟨⟨by assumption, by omega⟩, by omega, by omega⟩] at ih; exact xj_sub (by repeat (first | exact subL_nil | apply subL_none | apply subL_some rfl)) ih) | (rw [if_neg (fun q => by obtain ⟨⟨q1, q2⟩, q3, q4⟩ := q; first | omega | contradiction)] at ih; exact xj_sub (by repeat (first | exact subL_nil | apply subL_none | apply subL_some rfl)) ih)
      · -- 78
        refine xj_iload (pc2 := 80) dX7_changesNow_78 rfl rfl ?_
        refine xj_S1I (pc2 := 83) (d2 := 0) mok_X7_size ml_X7_194 sta_yX7_size dX7_changesNow_80 rfl rfl (by decide) (by decide) (Nat.le_of_ble_eq_true rfl) (fun _ => rfl) ?_
        refine c_X7_size (by omega) ?_
        refine xj_iconst (pc2 := 84) dX7_changesNow_83 rfl ?_
        refine xj_cmp_ge (pc2 := 87) (tgt := 91) dX7_changesNow_84 rfl rfl (by omega) (by omega) (fun c_84 => ?_) (fun c_84 => ?_)
        · -- 91
          refine xj_iconst (pc2 := 92) dX7_changesNow_91 rfl ?_
          refine xj_istore7 (pc2 := 94) dX7_changesNow_92 rfl (by decide) rfl ?_
          refine xj_iload (pc2 := 96) dX7_changesNow_94 rfl rfl ?_
          refine xj_iconst (pc2 := 97) dX7_changesNow_96 rfl ?_
          refine xj_cmp_eq (pc2 := 100) (tgt := 117) dX7_changesNow_97 rfl rfl (by omega) (by omega) (fun c_97 => ?_) (fun c_97 => ?_)
          · -- 117
            refine xj_iconst (pc2 := 118) dX7_changesNow_117 rfl ?_
            refine xj_goto (tgt := 122) dX7_changesNow_118 rfl ?_
            refine xj_istore8 (pc2 := 124) dX7_changesNow_122 rfl (by decide) rfl ?_
            refine xj_iload (pc2 := 126) dX7_changesNow_124 rfl rfl ?_
            refine xj_if_eq (pc2 := 129) (tgt := 152) dX7_changesNow_126 rfl rfl (by omega) (fun c_126 => ?_) (fun c_126 => absurd c_126 (by decide))
            refine xj_iload (pc2 := 154) dX7_changesNow_152 rfl rfl ?_
            refine xj_istore5 (pc2 := 156) dX7_changesNow_154 rfl (by decide) rfl ?_
            refine xj_iinc6 (pc2 := 159) dX7_changesNow_156 rfl (by decide) rfl ?_
            refine xj_goto (tgt := 57) dX7_changesNow_159 rfl ?_
            first | (rw [if_pos ⟨⟨by assumption, by omega⟩, by omega, by omega⟩] at ih; exact xj_sub (by repeat (first | exact subL_nil | apply subL_none | apply subL_some rfl)) ih) | (rw [if_neg (fun q => by obtain ⟨⟨q1, q2⟩, q3, q4⟩ := q; first | omega | contradiction)] at ih; exact xj_sub (by repeat (first | exact subL_nil | apply subL_none | apply subL_some rfl)) ih)
          · -- 100
            refine xj_iload (pc2 := 102) dX7_changesNow_100 rfl rfl ?_
            refine xj_iload_n (pc2 := 103) dX7_changesNow_102 rfl rfl rfl ?_
            refine xj_ixor (pc2 := 104) dX7_changesNow_103 rfl ?_
            refine xj_S1I (pc2 := 107) (d2 := 0) mok_X7_size ml_X7_194 sta_yX7_size dX7_changesNow_104 rfl rfl (by decide) (by decide) (Nat.le_of_ble_eq_true rfl) (fun _ => rfl) ?_
            refine c_X7_size (by omega) ?_
            refine xj_iload (pc2 := 109) dX7_changesNow_107 rfl rfl ?_
            refine xj_iload_n (pc2 := 110) dX7_changesNow_109 rfl rfl rfl ?_
            refine xj_ixor (pc2 := 111) dX7_changesNow_110 rfl ?_
            refine xj_S1I (pc2 := 114) (d2 := 0) mok_X7_size ml_X7_194 sta_yX7_size dX7_changesNow_111 rfl rfl (by decide) (by decide) (Nat.le_of_ble_eq_true rfl) (fun _ => rfl) ?_
            refine c_X7_size (by omega) ?_
            refine xj_cmp_ge (pc2 := 117) (tgt := 121) dX7_changesNow_114 rfl rfl (by omega) (by omega) (fun c_114 => ?_) (fun c_114 => ?_)
            · -- 121
              refine xj_iconst (pc2 := 122) dX7_changesNow_121 rfl ?_
              refine xj_istore8 (pc2 := 124) dX7_changesNow_122 rfl (by decide) rfl ?_
              refine xj_iload (pc2 := 126) dX7_changesNow_124 rfl rfl ?_
              refine xj_if_eq (pc2 := 129) (tgt := 152) dX7_changesNow_126 rfl rfl (by omega) (fun c_126 => ?_) (fun c_126 => absurd c_126 (by decide))
              refine xj_iload (pc2 := 154) dX7_changesNow_152 rfl rfl ?_
              refine xj_istore5 (pc2 := 156) dX7_changesNow_154 rfl (by decide) rfl ?_
              refine xj_iinc6 (pc2 := 159) dX7_changesNow_156 rfl (by decide) rfl ?_
              refine xj_goto (tgt := 57) dX7_changesNow_159 rfl ?_
              first | (rw [if_pos ⟨⟨by assumption, by omega⟩, by omega, by omega⟩] at ih; exact xj_sub (by repeat (first | exact subL_nil | apply subL_none | apply subL_some rfl)) ih) | (rw [if_neg (fun q => by obtain ⟨⟨q1, q2⟩, q3, q4⟩ := q; first | omega | contradiction)] at ih; exact xj_sub (by repeat (first | exact subL_nil | apply subL_none | apply subL_some rfl)) ih)
            · -- 117
              refine xj_iconst (pc2 := 118) dX7_changesNow_117 rfl ?_
              refine xj_goto (tgt := 122) dX7_changesNow_118 rfl ?_
              refine xj_istore8 (pc2 := 124) dX7_changesNow_122 rfl (by decide) rfl ?_
              refine xj_iload (pc2 := 126) dX7_changesNow_124 rfl rfl ?_
              refine xj_if_eq (pc2 := 129) (tgt := 152) dX7_changesNow_126 rfl rfl (by omega) (fun c_126 => ?_) (fun c_126 => absurd c_126 (by decide))
              refine xj_iload (pc2 := 154) dX7_changesNow_152 rfl rfl ?_
              refine xj_istore5 (pc2 := 156) dX7_changesNow_154 rfl (by decide) rfl ?_
              refine xj_iinc6 (pc2 := 159) dX7_changesNow_156 rfl (by decide) rfl ?_
              refine xj_goto (tgt := 57) dX7_changesNow_159 rfl ?_
              first | (rw [if_pos ⟨⟨by assumption, by omega⟩, by omega, by omega⟩] at ih; exact xj_sub (by repeat (first | exact subL_nil | apply subL_none | apply subL_some rfl)) ih) | (rw [if_neg (fun q => by obtain ⟨⟨q1, q2⟩, q3, q4⟩ := q; first | omega | contradiction)] at ih; exact xj_sub (by repeat (first | exact subL_nil | apply subL_none | apply subL_some rfl)) ih)
        · -- 87
          refine xj_iconst (pc2 := 88) dX7_changesNow_87 rfl ?_
          refine xj_goto (tgt := 92) dX7_changesNow_88 rfl ?_
          refine xj_istore7 (pc2 := 94) dX7_changesNow_92 rfl (by decide) rfl ?_
          refine xj_iload (pc2 := 96) dX7_changesNow_94 rfl rfl ?_
          refine xj_iconst (pc2 := 97) dX7_changesNow_96 rfl ?_
          refine xj_cmp_eq (pc2 := 100) (tgt := 117) dX7_changesNow_97 rfl rfl (by omega) (by omega) (fun c_97 => ?_) (fun c_97 => ?_)
          · -- 117
            refine xj_iconst (pc2 := 118) dX7_changesNow_117 rfl ?_
            refine xj_goto (tgt := 122) dX7_changesNow_118 rfl ?_
            refine xj_istore8 (pc2 := 124) dX7_changesNow_122 rfl (by decide) rfl ?_
            refine xj_iload (pc2 := 126) dX7_changesNow_124 rfl rfl ?_
            refine xj_if_eq (pc2 := 129) (tgt := 152) dX7_changesNow_126 rfl rfl (by omega) (fun c_126 => absurd c_126 (by decide)) (fun c_126 => ?_)
            refine xj_iload (pc2 := 131) dX7_changesNow_129 rfl rfl ?_
            refine xj_if_eq (pc2 := 134) (tgt := 152) dX7_changesNow_131 rfl rfl (by omega) (fun c_131 => absurd c_131 (by decide)) (fun c_131 => ?_)
            refine xj_aload_n (pc2 := 135) dX7_changesNow_134 rfl rfl rfl ?_
            refine xj_iload_n (pc2 := 136) dX7_changesNow_135 rfl rfl rfl ?_
            refine xj_iload (pc2 := 138) dX7_changesNow_136 rfl rfl ?_
            refine xj_iconst (pc2 := 139) dX7_changesNow_138 rfl ?_
            refine xj_V3I (pc2 := 142) (d2 := 3) mok_X7_moodWith ml_X7_149 ima_yX7_moodWith sel_yX7_moodWith rfl rfl dX7_changesNow_139 rfl rfl (by decide) (by decide) (Nat.le_of_ble_eq_true rfl) (fun _ => rfl) ?_
            refine c_X7_moodWith hM hW (by omega) (by omega) (by omega) ?_
            refine xj_bipush (pc2 := 144) dX7_changesNow_142 rfl (by decide) ?_
            refine xj_cmp_gt (pc2 := 147) (tgt := 152) dX7_changesNow_144 rfl rfl (by omega) (by omega) (fun c_144 => ?_) (fun c_144 => ?_)
            · -- 152
              refine xj_iload (pc2 := 154) dX7_changesNow_152 rfl rfl ?_
              refine xj_istore5 (pc2 := 156) dX7_changesNow_154 rfl (by decide) rfl ?_
              refine xj_iinc6 (pc2 := 159) dX7_changesNow_156 rfl (by decide) rfl ?_
              refine xj_goto (tgt := 57) dX7_changesNow_159 rfl ?_
              first | (rw [if_pos ⟨⟨by assumption, by omega⟩, by omega, by omega⟩] at ih; exact xj_sub (by repeat (first | exact subL_nil | apply subL_none | apply subL_some rfl)) ih) | (rw [if_neg (fun q => by obtain ⟨⟨q1, q2⟩, q3, q4⟩ := q; first | omega | contradiction)] at ih; exact xj_sub (by repeat (first | exact subL_nil | apply subL_none | apply subL_some rfl)) ih)
            · -- 147
              refine xj_iload (pc2 := 149) dX7_changesNow_147 rfl rfl ?_
              refine xj_goto (tgt := 154) dX7_changesNow_149 rfl ?_
              refine xj_istore5 (pc2 := 156) dX7_changesNow_154 rfl (by decide) rfl ?_
              refine xj_iinc6 (pc2 := 159) dX7_changesNow_156 rfl (by decide) rfl ?_
              refine xj_goto (tgt := 57) dX7_changesNow_159 rfl ?_
              first | (rw [if_pos ⟨⟨by assumption, by omega⟩, by omega, by omega⟩] at ih; exact xj_sub (by repeat (first | exact subL_nil | apply subL_none | apply subL_some rfl)) ih) | (rw [if_neg (fun q => by obtain ⟨⟨q1, q2⟩, q3, q4⟩ := q; first | omega | contradiction)] at ih; exact xj_sub (by repeat (first | exact subL_nil | apply subL_none | apply subL_some rfl)) ih)
          · -- 100
            refine xj_iload (pc2 := 102) dX7_changesNow_100 rfl rfl ?_
            refine xj_iload_n (pc2 := 103) dX7_changesNow_102 rfl rfl rfl ?_
            refine xj_ixor (pc2 := 104) dX7_changesNow_103 rfl ?_
            refine xj_S1I (pc2 := 107) (d2 := 0) mok_X7_size ml_X7_194 sta_yX7_size dX7_changesNow_104 rfl rfl (by decide) (by decide) (Nat.le_of_ble_eq_true rfl) (fun _ => rfl) ?_
            refine c_X7_size (by omega) ?_
            refine xj_iload (pc2 := 109) dX7_changesNow_107 rfl rfl ?_
            refine xj_iload_n (pc2 := 110) dX7_changesNow_109 rfl rfl rfl ?_
            refine xj_ixor (pc2 := 111) dX7_changesNow_110 rfl ?_
            refine xj_S1I (pc2 := 114) (d2 := 0) mok_X7_size ml_X7_194 sta_yX7_size dX7_changesNow_111 rfl rfl (by decide) (by decide) (Nat.le_of_ble_eq_true rfl) (fun _ => rfl) ?_
            refine c_X7_size (by omega) ?_
            refine xj_cmp_ge (pc2 := 117) (tgt := 121) dX7_changesNow_114 rfl rfl (by omega) (by omega) (fun c_114 => ?_) (fun c_114 => ?_)
            · -- 121
              refine xj_iconst (pc2 := 122) dX7_changesNow_121 rfl ?_
              refine xj_istore8 (pc2 := 124) dX7_changesNow_122 rfl (by decide) rfl ?_
              refine xj_iload (pc2 := 126) dX7_changesNow_124 rfl rfl ?_
              refine xj_if_eq (pc2 := 129) (tgt := 152) dX7_changesNow_126 rfl rfl (by omega) (fun c_126 => absurd c_126 (by decide)) (fun c_126 => ?_)
              refine xj_iload (pc2 := 131) dX7_changesNow_129 rfl rfl ?_
              refine xj_if_eq (pc2 := 134) (tgt := 152) dX7_changesNow_131 rfl rfl (by omega) (fun c_131 => ?_) (fun c_131 => absurd c_131 (by decide))
              refine xj_iload (pc2 := 154) dX7_changesNow_152 rfl rfl ?_
              refine xj_istore5 (pc2 := 156) dX7_changesNow_154 rfl (by decide) rfl ?_
              refine xj_iinc6 (pc2 := 159) dX7_changesNow_156 rfl (by decide) rfl ?_
              refine xj_goto (tgt := 57) dX7_changesNow_159 rfl ?_
              first | (rw [if_pos ⟨⟨by assumption, by omega⟩, by omega, by omega⟩] at ih; exact xj_sub (by repeat (first | exact subL_nil | apply subL_none | apply subL_some rfl)) ih) | (rw [if_neg (fun q => by obtain ⟨⟨q1, q2⟩, q3, q4⟩ := q; first | omega | contradiction)] at ih; exact xj_sub (by repeat (first | exact subL_nil | apply subL_none | apply subL_some rfl)) ih)
            · -- 117
              refine xj_iconst (pc2 := 118) dX7_changesNow_117 rfl ?_
              refine xj_goto (tgt := 122) dX7_changesNow_118 rfl ?_
              refine xj_istore8 (pc2 := 124) dX7_changesNow_122 rfl (by decide) rfl ?_
              refine xj_iload (pc2 := 126) dX7_changesNow_124 rfl rfl ?_
              refine xj_if_eq (pc2 := 129) (tgt := 152) dX7_changesNow_126 rfl rfl (by omega) (fun c_126 => absurd c_126 (by decide)) (fun c_126 => ?_)
              refine xj_iload (pc2 := 131) dX7_changesNow_129 rfl rfl ?_
              refine xj_if_eq (pc2 := 134) (tgt := 152) dX7_changesNow_131 rfl rfl (by omega) (fun c_131 => absurd c_131 (by decide)) (fun c_131 => ?_)
              refine xj_aload_n (pc2 := 135) dX7_changesNow_134 rfl rfl rfl ?_
              refine xj_iload_n (pc2 := 136) dX7_changesNow_135 rfl rfl rfl ?_
              refine xj_iload (pc2 := 138) dX7_changesNow_136 rfl rfl ?_
              refine xj_iconst (pc2 := 139) dX7_changesNow_138 rfl ?_
              refine xj_V3I (pc2 := 142) (d2 := 3) mok_X7_moodWith ml_X7_149 ima_yX7_moodWith sel_yX7_moodWith rfl rfl dX7_changesNow_139 rfl rfl (by decide) (by decide) (Nat.le_of_ble_eq_true rfl) (fun _ => rfl) ?_
              refine c_X7_moodWith hM hW (by omega) (by omega) (by omega) ?_
              refine xj_bipush (pc2 := 144) dX7_changesNow_142 rfl (by decide) ?_
              refine xj_cmp_gt (pc2 := 147) (tgt := 152) dX7_changesNow_144 rfl rfl (by omega) (by omega) (fun c_144 => ?_) (fun c_144 => ?_)
              · -- 152
                refine xj_iload (pc2 := 154) dX7_changesNow_152 rfl rfl ?_
                refine xj_istore5 (pc2 := 156) dX7_changesNow_154 rfl (by decide) rfl ?_
                refine xj_iinc6 (pc2 := 159) dX7_changesNow_156 rfl (by decide) rfl ?_
                refine xj_goto (tgt := 57) dX7_changesNow_159 rfl ?_
                first | (rw [if_pos ⟨⟨by assumption, by omega⟩, by omega, by omega⟩] at ih; exact xj_sub (by repeat (first | exact subL_nil | apply subL_none | apply subL_some rfl)) ih) | (rw [if_neg (fun q => by obtain ⟨⟨q1, q2⟩, q3, q4⟩ := q; first | omega | contradiction)] at ih; exact xj_sub (by repeat (first | exact subL_nil | apply subL_none | apply subL_some rfl)) ih)
              · -- 147
                refine xj_iload (pc2 := 149) dX7_changesNow_147 rfl rfl ?_
                refine xj_goto (tgt := 154) dX7_changesNow_149 rfl ?_
                refine xj_istore5 (pc2 := 156) dX7_changesNow_154 rfl (by decide) rfl ?_
                refine xj_iinc6 (pc2 := 159) dX7_changesNow_156 rfl (by decide) rfl ?_
                refine xj_goto (tgt := 57) dX7_changesNow_159 rfl ?_
                first | (rw [if_pos ⟨⟨by assumption, by omega⟩, by omega, by omega⟩] at ih; exact xj_sub (by repeat (first | exact subL_nil | apply subL_none | apply subL_some rfl)) ih) | (rw [if_neg (fun q => by obtain ⟨⟨q1, q2⟩, q3, q4⟩ := q; first | omega | contradiction)] at ih; exact xj_sub (by repeat (first | exact subL_nil | apply subL_none | apply subL_some rfl)) ih)
theorem c_X7_gloveNow {S : Sh} {g x : Int} {h : Hp} {Q : Int → Hp → Prop} (hM : RM S h) (hW : WF S) (hg : 0 ≤ g ∧ g < S 6 0) (hx : 0 ≤ x ∧ x ≤ 8) (hq : Q (gloveZ S g x) h) : CJ 4 kX7_gloveNow [.ref 9, vi g, vi x] h Q := by
  obtain ⟨⟨hn, hw, hh, hs⟩, mG, mN, mE⟩ := id hM
  have hnn := wf_n hW
  have hwg := wf_g hW hg
  unfold gloveZ hold side at hq
  rw [if_neg (fun q => q hg)] at hq
  refine cj_of (lo := [some (.ref 9), some (vi g), some (vi x)]) mok_X7_gloveNow (fun _ => rfl) (fun _ => Nat.le_of_ble_eq_true rfl) ?_
  refine xj_iload_n (pc2 := 1) dX7_gloveNow_0 rfl rfl rfl ?_
  refine tsw_X7_gloveNow_1 (by omega) (fun c_1 => ?_) (fun c_1 => ?_) (fun c_1 => ?_) (fun c_1 => ?_) (fun c_1 => ?_) (fun c_1 => ?_) (fun c_1 => ?_) (fun c_1 => ?_) (fun c_1 => ?_)
  · -- 48
    refine xj_aload_n (pc2 := 49) dX7_gloveNow_48 rfl rfl rfl ?_
    refine xj_getRn (pc2 := 52) (c2 := 148) fok_X7_7 dX7_gloveNow_49 rfl rfl rfl rfl rfl ?_
    refine xj_iload_n (pc2 := 53) dX7_gloveNow_52 rfl rfl rfl ?_
    refine xj_iald (pc2 := 54) dX7_gloveNow_53 rfl rfl (by omega) (by omega) (mG _ (by omega) (by omega)).1 ?_
    refine xj_iret dX7_gloveNow_54 rfl ?_
    exact q_eq (by (repeat' split) <;> first | (exfalso; omega) | rfl | omega) hq
  · -- 55
    refine xj_aload_n (pc2 := 56) dX7_gloveNow_55 rfl rfl rfl ?_
    refine xj_getRn (pc2 := 59) (c2 := 149) fok_X7_13 dX7_gloveNow_56 rfl rfl rfl rfl rfl ?_
    refine xj_iload_n (pc2 := 60) dX7_gloveNow_59 rfl rfl rfl ?_
    refine xj_iald (pc2 := 61) dX7_gloveNow_60 rfl rfl (by omega) (by omega) (mG _ (by omega) (by omega)).2.1 ?_
    refine xj_iret dX7_gloveNow_61 rfl ?_
    exact q_eq (by (repeat' split) <;> first | (exfalso; omega) | rfl | omega) hq
  · -- 62
    refine xj_aload_n (pc2 := 63) dX7_gloveNow_62 rfl rfl rfl ?_
    refine xj_getRn (pc2 := 66) (c2 := 150) fok_X7_16 dX7_gloveNow_63 rfl rfl rfl rfl rfl ?_
    refine xj_iload_n (pc2 := 67) dX7_gloveNow_66 rfl rfl rfl ?_
    refine xj_iald (pc2 := 68) dX7_gloveNow_67 rfl rfl (by omega) (by omega) (mG _ (by omega) (by omega)).2.2.1 ?_
    refine xj_iret dX7_gloveNow_68 rfl ?_
    exact q_eq (by (repeat' split) <;> first | (exfalso; omega) | rfl | omega) hq
  · -- 69
    refine xj_aload_n (pc2 := 70) dX7_gloveNow_69 rfl rfl rfl ?_
    refine xj_iload_n (pc2 := 71) dX7_gloveNow_70 rfl rfl rfl ?_
    refine xj_iconst (pc2 := 72) dX7_gloveNow_71 rfl ?_
    refine xj_V2I (pc2 := 75) (d2 := 1) mok_X7_temperBehind ml_X7_136 ima_yX7_temperBehind sel_yX7_temperBehind rfl rfl dX7_gloveNow_72 rfl rfl (by decide) (by decide) (Nat.le_of_ble_eq_true rfl) (fun _ => rfl) ?_
    refine c_X7_temperBehind hM hW (by omega) (by omega) ?_
    refine xj_iret dX7_gloveNow_75 rfl ?_
    exact q_eq (by (repeat' split) <;> first | (exfalso; omega) | rfl | omega) hq
  · -- 76
    refine xj_aload_n (pc2 := 77) dX7_gloveNow_76 rfl rfl rfl ?_
    refine xj_getRn (pc2 := 80) (c2 := 151) fok_X7_19 dX7_gloveNow_77 rfl rfl rfl rfl rfl ?_
    refine xj_iload_n (pc2 := 81) dX7_gloveNow_80 rfl rfl rfl ?_
    refine xj_iald (pc2 := 82) dX7_gloveNow_81 rfl rfl (by omega) (by omega) (mG _ (by omega) (by omega)).2.2.2 ?_
    refine xj_iconst (pc2 := 83) dX7_gloveNow_82 rfl ?_
    refine xj_cmp_ne (pc2 := 86) (tgt := 90) dX7_gloveNow_83 rfl rfl (by omega) (by omega) (fun c_83 => ?_) (fun c_83 => ?_)
    · -- 90
      refine xj_aload_n (pc2 := 91) dX7_gloveNow_90 rfl rfl rfl ?_
      refine xj_getRn (pc2 := 94) (c2 := 151) fok_X7_19 dX7_gloveNow_91 rfl rfl rfl rfl rfl ?_
      refine xj_iload_n (pc2 := 95) dX7_gloveNow_94 rfl rfl rfl ?_
      refine xj_iald (pc2 := 96) dX7_gloveNow_95 rfl rfl (by omega) (by omega) (mG _ (by omega) (by omega)).2.2.2 ?_
      refine xj_iconst (pc2 := 97) dX7_gloveNow_96 rfl ?_
      refine xj_idiv (pc2 := 98) dX7_gloveNow_97 rfl (by omega) (by omega) ?_
      refine xj_iret dX7_gloveNow_98 rfl ?_
      exact q_eq (by (repeat' split) <;> first | (exfalso; omega) | rfl | omega) hq
    · -- 86
      refine xj_iconst (pc2 := 87) dX7_gloveNow_86 rfl ?_
      refine xj_goto (tgt := 98) dX7_gloveNow_87 rfl ?_
      refine xj_iret dX7_gloveNow_98 rfl ?_
      exact q_eq (by (repeat' split) <;> first | (exfalso; omega) | rfl | omega) hq
  · -- 99
    refine xj_aload_n (pc2 := 100) dX7_gloveNow_99 rfl rfl rfl ?_
    refine xj_getRn (pc2 := 103) (c2 := 151) fok_X7_19 dX7_gloveNow_100 rfl rfl rfl rfl rfl ?_
    refine xj_iload_n (pc2 := 104) dX7_gloveNow_103 rfl rfl rfl ?_
    refine xj_iald (pc2 := 105) dX7_gloveNow_104 rfl rfl (by omega) (by omega) (mG _ (by omega) (by omega)).2.2.2 ?_
    refine xj_iconst (pc2 := 106) dX7_gloveNow_105 rfl ?_
    refine xj_cmp_ne (pc2 := 109) (tgt := 113) dX7_gloveNow_106 rfl rfl (by omega) (by omega) (fun c_106 => ?_) (fun c_106 => ?_)
    · -- 113
      refine xj_aload_n (pc2 := 114) dX7_gloveNow_113 rfl rfl rfl ?_
      refine xj_getRn (pc2 := 117) (c2 := 151) fok_X7_19 dX7_gloveNow_114 rfl rfl rfl rfl rfl ?_
      refine xj_iload_n (pc2 := 118) dX7_gloveNow_117 rfl rfl rfl ?_
      refine xj_iald (pc2 := 119) dX7_gloveNow_118 rfl rfl (by omega) (by omega) (mG _ (by omega) (by omega)).2.2.2 ?_
      refine xj_iconst (pc2 := 120) dX7_gloveNow_119 rfl ?_
      refine xj_irem (pc2 := 121) dX7_gloveNow_120 rfl (by omega) (by omega) ?_
      refine xj_iret dX7_gloveNow_121 rfl ?_
      exact q_eq (by (repeat' split) <;> first | (exfalso; omega) | rfl | omega) hq
    · -- 109
      refine xj_iconst (pc2 := 110) dX7_gloveNow_109 rfl ?_
      refine xj_goto (tgt := 121) dX7_gloveNow_110 rfl ?_
      refine xj_iret dX7_gloveNow_121 rfl ?_
      exact q_eq (by (repeat' split) <;> first | (exfalso; omega) | rfl | omega) hq
  · -- 122
    refine xj_aload_n (pc2 := 123) dX7_gloveNow_122 rfl rfl rfl ?_
    refine xj_iload_n (pc2 := 124) dX7_gloveNow_123 rfl rfl rfl ?_
    refine xj_V1I (pc2 := 127) (d2 := 3) mok_X7_quarrels ml_X7_155 ima_yX7_quarrels sel_yX7_quarrels rfl rfl dX7_gloveNow_124 rfl rfl (by decide) (by decide) (Nat.le_of_ble_eq_true rfl) (fun _ => rfl) ?_
    refine c_X7_quarrels hM hW (by omega) ?_
    refine xj_iret dX7_gloveNow_127 rfl ?_
    exact q_eq (by (repeat' split) <;> first | (exfalso; omega) | rfl | omega) hq
  · -- 128
    refine xj_aload_n (pc2 := 129) dX7_gloveNow_128 rfl rfl rfl ?_
    refine xj_iload_n (pc2 := 130) dX7_gloveNow_129 rfl rfl rfl ?_
    refine xj_V1I (pc2 := 133) (d2 := 1) mok_X7_marksOf ml_X7_158 ima_yX7_marksOf sel_yX7_marksOf rfl rfl dX7_gloveNow_130 rfl rfl (by decide) (by decide) (Nat.le_of_ble_eq_true rfl) (fun _ => rfl) ?_
    refine c_X7_marksOf hM hW (by omega) ?_
    refine xj_iret dX7_gloveNow_133 rfl ?_
    exact q_eq (by (repeat' split) <;> first | (exfalso; omega) | rfl | omega) hq
  · -- 134
    refine xj_aload_n (pc2 := 135) dX7_gloveNow_134 rfl rfl rfl ?_
    refine xj_iload_n (pc2 := 136) dX7_gloveNow_135 rfl rfl rfl ?_
    refine xj_V1I (pc2 := 139) (d2 := 2) mok_X7_feelFor ml_X7_161 ima_yX7_feelFor sel_yX7_feelFor rfl rfl dX7_gloveNow_136 rfl rfl (by decide) (by decide) (Nat.le_of_ble_eq_true rfl) (fun _ => rfl) ?_
    refine c_X7_feelFor hM hW (by omega) ?_
    refine xj_iret dX7_gloveNow_139 rfl ?_
    exact q_eq (by (repeat' split) <;> first | (exfalso; omega) | rfl | omega) hq
theorem c_X7_glove {S : Sh} {g x : Int} {h : Hp} {Q : Int → Hp → Prop} (hM : RM S h) (hW : WF S) (hg : -2147483648 ≤ g ∧ g ≤ 2147483647) (hx : -2147483648 ≤ x ∧ x ≤ 2147483647) (hq : Q (gloveZ S g x) h) : CJ 5 kX7_glove [.ref 9, vi g, vi x] h Q := by
  have hnn := wf_n hW
  refine cj_of (lo := [some (.ref 9), some (vi g), some (vi x)]) mok_X7_glove (fun _ => rfl) (fun _ => Nat.le_of_ble_eq_true rfl) ?_
  refine xj_aload_n (pc2 := 1) dX7_glove_0 rfl rfl rfl ?_
  refine xj_iload_n (pc2 := 2) dX7_glove_1 rfl rfl rfl ?_
  refine xj_V1I (pc2 := 5) (d2 := 1) mok_X7_isGlove ml_X7_164 ima_yX7_isGlove sel_yX7_isGlove rfl rfl dX7_glove_2 rfl rfl (by decide) (by decide) (Nat.le_of_ble_eq_true rfl) (fun _ => rfl) ?_
  refine c_X7_isGlove hM hW (by omega) ?_ ?_
  · -- X7_isGlove = 1
    intro c_2
    refine xj_if_ne (pc2 := 8) (tgt := 13) dX7_glove_5 rfl rfl (by omega) (fun c_5 => ?_) (fun c_5 => absurd c_5 (by decide))
    refine xj_iload_n (pc2 := 14) dX7_glove_13 rfl rfl rfl ?_
    refine xj_iconst (pc2 := 15) dX7_glove_14 rfl ?_
    refine xj_bipush (pc2 := 17) dX7_glove_15 rfl (by decide) ?_
    refine xj_S3I (pc2 := 20) (d2 := 0) mok_X7_within ml_X7_77 sta_yX7_within dX7_glove_17 rfl rfl (by decide) (by decide) (Nat.le_of_ble_eq_true rfl) (fun _ => rfl) ?_
    refine c_X7_within (by omega) (by omega) (by omega) ?_ ?_
    · -- X7_within = 1
      intro c_17
      refine xj_if_eq (pc2 := 23) (tgt := 32) dX7_glove_20 rfl rfl (by omega) (fun c_20 => absurd c_20 (by decide)) (fun c_20 => ?_)
      refine xj_aload_n (pc2 := 24) dX7_glove_23 rfl rfl rfl ?_
      refine xj_iload_n (pc2 := 25) dX7_glove_24 rfl rfl rfl ?_
      refine xj_iload_n (pc2 := 26) dX7_glove_25 rfl rfl rfl ?_
      refine xj_V2I (pc2 := 29) (d2 := 4) mok_X7_gloveNow ml_X7_167 ima_yX7_gloveNow sel_yX7_gloveNow rfl rfl dX7_glove_26 rfl rfl (by decide) (by decide) (Nat.le_of_ble_eq_true rfl) (fun _ => rfl) ?_
      refine c_X7_gloveNow hM hW (by omega) (by omega) ?_
      refine xj_goto (tgt := 34) dX7_glove_29 rfl ?_
      refine xj_iret dX7_glove_34 rfl ?_
      first
      | exact hq
      | exact q_eq (by unfold gloveZ; (repeat' split) <;> first | (exfalso; omega) | rfl | omega) hq
    · -- X7_within = 0
      intro c_17
      refine xj_if_eq (pc2 := 23) (tgt := 32) dX7_glove_20 rfl rfl (by omega) (fun c_20 => ?_) (fun c_20 => absurd c_20 (by decide))
      refine xj_bipush (pc2 := 34) dX7_glove_32 rfl (by decide) ?_
      refine xj_iret dX7_glove_34 rfl ?_
      first
      | exact hq
      | exact q_eq (by unfold gloveZ; (repeat' split) <;> first | (exfalso; omega) | rfl | omega) hq
  · -- X7_isGlove = 0
    intro c_2
    refine xj_if_ne (pc2 := 8) (tgt := 13) dX7_glove_5 rfl rfl (by omega) (fun c_5 => absurd c_5 (by decide)) (fun c_5 => ?_)
    refine xj_bipush (pc2 := 10) dX7_glove_8 rfl (by decide) ?_
    refine xj_goto (tgt := 34) dX7_glove_10 rfl ?_
    refine xj_iret dX7_glove_34 rfl ?_
    first
    | exact hq
    | exact q_eq (by unfold gloveZ; (repeat' split) <;> first | (exfalso; omega) | rfl | omega) hq
theorem c_X7_as {S : Sh} {g x : Int} {h : Hp} {Q : Int → Hp → Prop} (hM : RM S h) (hW : WF S) (hg : -2147483648 ≤ g ∧ g ≤ 2147483647) (hx : -2147483648 ≤ x ∧ x ≤ 2147483647) (hq : Q (asZ S g x) h) : CJ 2 kX7_as [.ref 9, vi g, vi x] h Q := by
  obtain ⟨⟨hn, hw, hh, hs⟩, mG, mN, mE⟩ := id hM
  have hnn := wf_n hW
  refine cj_of (lo := [some (.ref 9), some (vi g), some (vi x), none]) mok_X7_as (fun _ => rfl) (fun _ => Nat.le_of_ble_eq_true rfl) ?_
  refine xj_aload_n (pc2 := 1) dX7_as_0 rfl rfl rfl ?_
  refine xj_iload_n (pc2 := 2) dX7_as_1 rfl rfl rfl ?_
  refine xj_V1I (pc2 := 5) (d2 := 1) mok_X7_isGlove ml_X7_164 ima_yX7_isGlove sel_yX7_isGlove rfl rfl dX7_as_2 rfl rfl (by decide) (by decide) (Nat.le_of_ble_eq_true rfl) (fun _ => rfl) ?_
  refine c_X7_isGlove hM hW (by omega) ?_ ?_
  · -- X7_isGlove = 1
    intro c_2
    refine xj_if_ne (pc2 := 8) (tgt := 11) dX7_as_5 rfl rfl (by omega) (fun c_5 => ?_) (fun c_5 => absurd c_5 (by decide))
    refine xj_iload_n (pc2 := 12) dX7_as_11 rfl rfl rfl ?_
    refine xj_iconst (pc2 := 13) dX7_as_12 rfl ?_
    refine xj_iconst (pc2 := 14) dX7_as_13 rfl ?_
    refine xj_S3I (pc2 := 17) (d2 := 0) mok_X7_within ml_X7_77 sta_yX7_within dX7_as_14 rfl rfl (by decide) (by decide) (Nat.le_of_ble_eq_true rfl) (fun _ => rfl) ?_
    refine c_X7_within (by omega) (by omega) (by omega) ?_ ?_
    · -- X7_within = 1
      intro c_14
      refine xj_if_ne (pc2 := 20) (tgt := 23) dX7_as_17 rfl rfl (by omega) (fun c_17 => ?_) (fun c_17 => absurd c_17 (by decide))
      have hwg := wf_g hW c_2
      refine xj_aload_n (pc2 := 24) dX7_as_23 rfl rfl rfl ?_
      refine xj_getRn (pc2 := 27) (c2 := 148) fok_X7_7 dX7_as_24 rfl rfl rfl rfl rfl ?_
      refine xj_iload_n (pc2 := 28) dX7_as_27 rfl rfl rfl ?_
      refine xj_iald (pc2 := 29) dX7_as_28 rfl rfl (by omega) (by omega) (mG _ (by omega) (by omega)).1 ?_
      refine xj_istore3 (pc2 := 30) dX7_as_29 rfl rfl (by decide) rfl ?_
      refine xj_iload_n (pc2 := 31) dX7_as_30 rfl rfl rfl ?_
      refine xj_if_eq (pc2 := 34) (tgt := 49) dX7_as_31 rfl rfl (by omega) (fun c_31 => ?_) (fun c_31 => ?_)
      · -- 49
        refine xj_iload_n (pc2 := 50) dX7_as_49 rfl rfl rfl ?_
        refine xj_goto (tgt := 54) dX7_as_50 rfl ?_
        refine xj_iret dX7_as_54 rfl ?_
        exact q_eq (by unfold asZ; (repeat' split) <;> first | (exfalso; omega) | rfl | omega) hq
      · -- 34
        refine xj_iload_n (pc2 := 35) dX7_as_34 rfl rfl rfl ?_
        refine xj_iload_n (pc2 := 36) dX7_as_35 rfl rfl rfl ?_
        refine xj_cmp_eq (pc2 := 39) (tgt := 49) dX7_as_36 rfl rfl (by omega) (by omega) (fun c_36 => ?_) (fun c_36 => ?_)
        · -- 49
          refine xj_iload_n (pc2 := 50) dX7_as_49 rfl rfl rfl ?_
          refine xj_goto (tgt := 54) dX7_as_50 rfl ?_
          refine xj_iret dX7_as_54 rfl ?_
          exact q_eq (by unfold asZ; (repeat' split) <;> first | (exfalso; omega) | rfl | omega) hq
        · -- 39
          refine xj_iload_n (pc2 := 40) dX7_as_39 rfl rfl rfl ?_
          refine xj_iconst (pc2 := 41) dX7_as_40 rfl ?_
          refine xj_cmp_ne (pc2 := 44) (tgt := 53) dX7_as_41 rfl rfl (by omega) (by omega) (fun c_41 => ?_) (fun c_41 => ?_)
          · -- 53
            refine xj_iconst (pc2 := 54) dX7_as_53 rfl ?_
            refine xj_iret dX7_as_54 rfl ?_
            exact q_eq (by unfold asZ; (repeat' split) <;> first | (exfalso; omega) | rfl | omega) hq
          · -- 44
            refine xj_iload_n (pc2 := 45) dX7_as_44 rfl rfl rfl ?_
            refine xj_iconst (pc2 := 46) dX7_as_45 rfl ?_
            refine xj_cmp_ne (pc2 := 49) (tgt := 53) dX7_as_46 rfl rfl (by omega) (by omega) (fun c_46 => ?_) (fun c_46 => ?_)
            · -- 53
              refine xj_iconst (pc2 := 54) dX7_as_53 rfl ?_
              refine xj_iret dX7_as_54 rfl ?_
              exact q_eq (by unfold asZ; (repeat' split) <;> first | (exfalso; omega) | rfl | omega) hq
            · -- 49
              refine xj_iload_n (pc2 := 50) dX7_as_49 rfl rfl rfl ?_
              refine xj_goto (tgt := 54) dX7_as_50 rfl ?_
              refine xj_iret dX7_as_54 rfl ?_
              exact q_eq (by unfold asZ; (repeat' split) <;> first | (exfalso; omega) | rfl | omega) hq
    · -- X7_within = 0
      intro c_14
      refine xj_if_ne (pc2 := 20) (tgt := 23) dX7_as_17 rfl rfl (by omega) (fun c_17 => absurd c_17 (by decide)) (fun c_17 => ?_)
      refine xj_bipush (pc2 := 22) dX7_as_20 rfl (by decide) ?_
      refine xj_iret dX7_as_22 rfl ?_
      exact q_eq (by unfold asZ; (repeat' split) <;> first | (exfalso; omega) | rfl | omega) hq
  · -- X7_isGlove = 0
    intro c_2
    refine xj_if_ne (pc2 := 8) (tgt := 11) dX7_as_5 rfl rfl (by omega) (fun c_5 => absurd c_5 (by decide)) (fun c_5 => ?_)
    refine xj_bipush (pc2 := 10) dX7_as_8 rfl (by decide) ?_
    refine xj_iret dX7_as_10 rfl ?_
    exact q_eq (by unfold asZ; (repeat' split) <;> first | (exfalso; omega) | rfl | omega) hq
theorem c_X7_wearerNow {S : Sh} {g x : Int} {h : Hp} {Q : Int → Hp → Prop} (hM : RM S h) (hW : WF S) (hg : 0 ≤ g ∧ g < S 6 1) (hx : 0 ≤ x ∧ x ≤ 8) (hq : Q (wearerZ S g x) h) : CJ 5 kX7_wearerNow [.ref 9, vi g, vi x] h Q := by
  obtain ⟨⟨hn, hw, hh, hs⟩, mG, mN, mE⟩ := id hM
  have hnn := wf_n hW
  have hww := wf_w hW hg
  have hmm := moodZ_rg hW (b := bsum (heldP S g) (nG S)) hg (show (0 : Int) ≤ 0 by decide)
  have hmn : 0 ≤ moodN S g ∧ moodN S g ≤ 66 := hmm
  unfold wearerZ wishN at hq
  rw [if_neg (fun q => q hg)] at hq
  refine cj_of (lo := [some (.ref 9), some (vi g), some (vi x)]) mok_X7_wearerNow (fun _ => rfl) (fun _ => Nat.le_of_ble_eq_true rfl) ?_
  refine xj_iload_n (pc2 := 1) dX7_wearerNow_0 rfl rfl rfl ?_
  refine tsw_X7_wearerNow_1 (by omega) (fun c_1 => ?_) (fun c_1 => ?_) (fun c_1 => ?_) (fun c_1 => ?_) (fun c_1 => ?_) (fun c_1 => ?_) (fun c_1 => ?_) (fun c_1 => ?_)
  · -- 44
    refine xj_aload_n (pc2 := 45) dX7_wearerNow_44 rfl rfl rfl ?_
    refine xj_getRn (pc2 := 48) (c2 := 152) fok_X7_22 dX7_wearerNow_45 rfl rfl rfl rfl rfl ?_
    refine xj_iload_n (pc2 := 49) dX7_wearerNow_48 rfl rfl rfl ?_
    refine xj_iald (pc2 := 50) dX7_wearerNow_49 rfl rfl (by omega) (by omega) (mN _ (by omega) (by omega)).1 ?_
    refine xj_iret dX7_wearerNow_50 rfl ?_
    first
    | exact q_eq (by (repeat' split) <;> first | (exfalso; omega) | rfl | omega | contradiction | (exact congrArg (goZ S) (by omega))) hq
    | (rw [c_1] at hq ⊢; exact hq)
  · -- 51
    refine xj_aload_n (pc2 := 52) dX7_wearerNow_51 rfl rfl rfl ?_
    refine xj_iload_n (pc2 := 53) dX7_wearerNow_52 rfl rfl rfl ?_
    refine xj_V1I (pc2 := 56) (d2 := 4) mok_X7_moodNow ml_X7_170 ima_yX7_moodNow sel_yX7_moodNow rfl rfl dX7_wearerNow_53 rfl rfl (by decide) (by decide) (Nat.le_of_ble_eq_true rfl) (fun _ => rfl) ?_
    refine c_X7_moodNow hM hW (by omega) ?_
    refine xj_iret dX7_wearerNow_56 rfl ?_
    first
    | exact q_eq (by (repeat' split) <;> first | (exfalso; omega) | rfl | omega | contradiction | (exact congrArg (goZ S) (by omega))) hq
    | (rw [c_1] at hq ⊢; exact hq)
  · -- 57
    refine xj_aload_n (pc2 := 58) dX7_wearerNow_57 rfl rfl rfl ?_
    refine xj_iconst (pc2 := 59) dX7_wearerNow_58 rfl ?_
    refine xj_iload_n (pc2 := 60) dX7_wearerNow_59 rfl rfl rfl ?_
    refine xj_imul (pc2 := 61) dX7_wearerNow_60 rfl ?_
    refine xj_iload_n (pc2 := 62) dX7_wearerNow_61 rfl rfl rfl ?_
    refine xj_iadd (pc2 := 63) dX7_wearerNow_62 rfl ?_
    refine xj_iconst (pc2 := 64) dX7_wearerNow_63 rfl ?_
    refine xj_isub (pc2 := 65) dX7_wearerNow_64 rfl ?_
    refine xj_V1I (pc2 := 68) (d2 := 0) mok_X7_onHand ml_X7_173 ima_yX7_onHand sel_yX7_onHand rfl rfl dX7_wearerNow_65 rfl rfl (by decide) (by decide) (Nat.le_of_ble_eq_true rfl) (fun _ => rfl) ?_
    refine c_X7_onHand hM hW (by omega) ?_
    refine xj_iret dX7_wearerNow_68 rfl ?_
    first
    | exact q_eq (by (repeat' split) <;> first | (exfalso; omega) | rfl | omega | contradiction | (exact congrArg (goZ S) (by omega))) hq
    | (rw [c_1] at hq ⊢; exact hq)
  · -- 57
    refine xj_aload_n (pc2 := 58) dX7_wearerNow_57 rfl rfl rfl ?_
    refine xj_iconst (pc2 := 59) dX7_wearerNow_58 rfl ?_
    refine xj_iload_n (pc2 := 60) dX7_wearerNow_59 rfl rfl rfl ?_
    refine xj_imul (pc2 := 61) dX7_wearerNow_60 rfl ?_
    refine xj_iload_n (pc2 := 62) dX7_wearerNow_61 rfl rfl rfl ?_
    refine xj_iadd (pc2 := 63) dX7_wearerNow_62 rfl ?_
    refine xj_iconst (pc2 := 64) dX7_wearerNow_63 rfl ?_
    refine xj_isub (pc2 := 65) dX7_wearerNow_64 rfl ?_
    refine xj_V1I (pc2 := 68) (d2 := 0) mok_X7_onHand ml_X7_173 ima_yX7_onHand sel_yX7_onHand rfl rfl dX7_wearerNow_65 rfl rfl (by decide) (by decide) (Nat.le_of_ble_eq_true rfl) (fun _ => rfl) ?_
    refine c_X7_onHand hM hW (by omega) ?_
    refine xj_iret dX7_wearerNow_68 rfl ?_
    first
    | exact q_eq (by (repeat' split) <;> first | (exfalso; omega) | rfl | omega | contradiction | (exact congrArg (goZ S) (by omega))) hq
    | (rw [c_1] at hq ⊢; exact hq)
  · -- 69
    refine xj_aload_n (pc2 := 70) dX7_wearerNow_69 rfl rfl rfl ?_
    refine xj_iload_n (pc2 := 71) dX7_wearerNow_70 rfl rfl rfl ?_
    refine xj_V1I (pc2 := 74) (d2 := 4) mok_X7_moodNow ml_X7_170 ima_yX7_moodNow sel_yX7_moodNow rfl rfl dX7_wearerNow_71 rfl rfl (by decide) (by decide) (Nat.le_of_ble_eq_true rfl) (fun _ => rfl) ?_
    refine c_X7_moodNow hM hW (by omega) ?_
    refine xj_S1I (pc2 := 77) (d2 := 0) mok_X7_doesBy ml_X7_152 sta_yX7_doesBy dX7_wearerNow_74 rfl rfl (by decide) (by decide) (Nat.le_of_ble_eq_true rfl) (fun _ => rfl) ?_
    refine c_X7_doesBy (by omega) ?_
    refine xj_iret dX7_wearerNow_77 rfl ?_
    first
    | exact q_eq (by (repeat' split) <;> first | (exfalso; omega) | rfl | omega | contradiction | (exact congrArg (goZ S) (by omega))) hq
    | (rw [c_1] at hq ⊢; exact hq)
  · -- 78
    refine xj_aload_n (pc2 := 79) dX7_wearerNow_78 rfl rfl rfl ?_
    refine xj_getRn (pc2 := 82) (c2 := 153) fok_X7_25 dX7_wearerNow_79 rfl rfl rfl rfl rfl ?_
    refine xj_iload_n (pc2 := 83) dX7_wearerNow_82 rfl rfl rfl ?_
    refine xj_iald (pc2 := 84) dX7_wearerNow_83 rfl rfl (by omega) (by omega) (mN _ (by omega) (by omega)).2 ?_
    refine xj_iret dX7_wearerNow_84 rfl ?_
    first
    | exact q_eq (by (repeat' split) <;> first | (exfalso; omega) | rfl | omega | contradiction | (exact congrArg (goZ S) (by omega))) hq
    | (rw [c_1] at hq ⊢; exact hq)
  · -- 85
    refine xj_aload_n (pc2 := 86) dX7_wearerNow_85 rfl rfl rfl ?_
    refine xj_iload_n (pc2 := 87) dX7_wearerNow_86 rfl rfl rfl ?_
    refine xj_aload_n (pc2 := 88) dX7_wearerNow_87 rfl rfl rfl ?_
    refine xj_iload_n (pc2 := 89) dX7_wearerNow_88 rfl rfl rfl ?_
    refine xj_V1I (pc2 := 92) (d2 := 4) mok_X7_moodNow ml_X7_170 ima_yX7_moodNow sel_yX7_moodNow rfl rfl dX7_wearerNow_89 rfl rfl (by decide) (by decide) (Nat.le_of_ble_eq_true rfl) (fun _ => rfl) ?_
    refine c_X7_moodNow hM hW (by omega) ?_
    refine xj_V2I (pc2 := 95) (d2 := 1) mok_X7_isWished ml_X7_176 ima_yX7_isWished sel_yX7_isWished rfl rfl dX7_wearerNow_92 rfl rfl (by decide) (by decide) (Nat.le_of_ble_eq_true rfl) (fun _ => rfl) ?_
    refine c_X7_isWished hM hW (by omega) (by omega) ?_ ?_
    · -- X7_isWished = 1
      intro c_92
      refine xj_if_eq (pc2 := 98) (tgt := 102) dX7_wearerNow_95 rfl rfl (by omega) (fun c_95 => absurd c_95 (by decide)) (fun c_95 => ?_)
      refine xj_iconst (pc2 := 99) dX7_wearerNow_98 rfl ?_
      refine xj_goto (tgt := 103) dX7_wearerNow_99 rfl ?_
      refine xj_iret dX7_wearerNow_103 rfl ?_
      first
      | exact q_eq (by (repeat' split) <;> first | (exfalso; omega) | rfl | omega | contradiction | (exact congrArg (goZ S) (by omega))) hq
      | (rw [c_1] at hq ⊢; exact hq)
    · -- X7_isWished = 0
      intro c_92
      refine xj_if_eq (pc2 := 98) (tgt := 102) dX7_wearerNow_95 rfl rfl (by omega) (fun c_95 => ?_) (fun c_95 => absurd c_95 (by decide))
      refine xj_iconst (pc2 := 103) dX7_wearerNow_102 rfl ?_
      refine xj_iret dX7_wearerNow_103 rfl ?_
      first
      | exact q_eq (by (repeat' split) <;> first | (exfalso; omega) | rfl | omega | contradiction | (exact congrArg (goZ S) (by omega))) hq
      | (rw [c_1] at hq ⊢; exact hq)
  · -- 104
    refine xj_aload_n (pc2 := 105) dX7_wearerNow_104 rfl rfl rfl ?_
    refine xj_iload_n (pc2 := 106) dX7_wearerNow_105 rfl rfl rfl ?_
    refine xj_iload_n (pc2 := 107) dX7_wearerNow_106 rfl rfl rfl ?_
    refine xj_bipush (pc2 := 109) dX7_wearerNow_107 rfl (by decide) ?_
    refine xj_isub (pc2 := 110) dX7_wearerNow_109 rfl ?_
    refine xj_V2I (pc2 := 113) (d2 := 4) mok_X7_changesNow ml_X7_179 ima_yX7_changesNow sel_yX7_changesNow rfl rfl dX7_wearerNow_110 rfl rfl (by decide) (by decide) (Nat.le_of_ble_eq_true rfl) (fun _ => rfl) ?_
    refine c_X7_changesNow hM hW (by omega) (by omega) ?_
    refine xj_iret dX7_wearerNow_113 rfl ?_
    first
    | exact q_eq (by (repeat' split) <;> first | (exfalso; omega) | rfl | omega | contradiction | (exact congrArg (goZ S) (by omega))) hq
    | (rw [c_1] at hq ⊢; exact hq)
theorem c_X7_wearer {S : Sh} {g x : Int} {h : Hp} {Q : Int → Hp → Prop} (hM : RM S h) (hW : WF S) (hg : -2147483648 ≤ g ∧ g ≤ 2147483647) (hx : -2147483648 ≤ x ∧ x ≤ 2147483647) (hq : Q (wearerZ S g x) h) : CJ 6 kX7_wearer [.ref 9, vi g, vi x] h Q := by
  have hnn := wf_n hW
  refine cj_of (lo := [some (.ref 9), some (vi g), some (vi x)]) mok_X7_wearer (fun _ => rfl) (fun _ => Nat.le_of_ble_eq_true rfl) ?_
  refine xj_aload_n (pc2 := 1) dX7_wearer_0 rfl rfl rfl ?_
  refine xj_iload_n (pc2 := 2) dX7_wearer_1 rfl rfl rfl ?_
  refine xj_V1I (pc2 := 5) (d2 := 1) mok_X7_isWearer ml_X7_182 ima_yX7_isWearer sel_yX7_isWearer rfl rfl dX7_wearer_2 rfl rfl (by decide) (by decide) (Nat.le_of_ble_eq_true rfl) (fun _ => rfl) ?_
  refine c_X7_isWearer hM hW (by omega) ?_ ?_
  · -- X7_isWearer = 1
    intro c_2
    refine xj_if_ne (pc2 := 8) (tgt := 13) dX7_wearer_5 rfl rfl (by omega) (fun c_5 => ?_) (fun c_5 => absurd c_5 (by decide))
    refine xj_iload_n (pc2 := 14) dX7_wearer_13 rfl rfl rfl ?_
    refine xj_iconst (pc2 := 15) dX7_wearer_14 rfl ?_
    refine xj_bipush (pc2 := 17) dX7_wearer_15 rfl (by decide) ?_
    refine xj_S3I (pc2 := 20) (d2 := 0) mok_X7_within ml_X7_77 sta_yX7_within dX7_wearer_17 rfl rfl (by decide) (by decide) (Nat.le_of_ble_eq_true rfl) (fun _ => rfl) ?_
    refine c_X7_within (by omega) (by omega) (by omega) ?_ ?_
    · -- X7_within = 1
      intro c_17
      refine xj_if_eq (pc2 := 23) (tgt := 32) dX7_wearer_20 rfl rfl (by omega) (fun c_20 => absurd c_20 (by decide)) (fun c_20 => ?_)
      refine xj_aload_n (pc2 := 24) dX7_wearer_23 rfl rfl rfl ?_
      refine xj_iload_n (pc2 := 25) dX7_wearer_24 rfl rfl rfl ?_
      refine xj_iload_n (pc2 := 26) dX7_wearer_25 rfl rfl rfl ?_
      refine xj_V2I (pc2 := 29) (d2 := 5) mok_X7_wearerNow ml_X7_185 ima_yX7_wearerNow sel_yX7_wearerNow rfl rfl dX7_wearer_26 rfl rfl (by decide) (by decide) (Nat.le_of_ble_eq_true rfl) (fun _ => rfl) ?_
      refine c_X7_wearerNow hM hW (by omega) (by omega) ?_
      refine xj_goto (tgt := 34) dX7_wearer_29 rfl ?_
      refine xj_iret dX7_wearer_34 rfl ?_
      first
      | exact hq
      | exact q_eq (by unfold wearerZ; (repeat' split) <;> first | (exfalso; omega) | rfl | omega) hq
    · -- X7_within = 0
      intro c_17
      refine xj_if_eq (pc2 := 23) (tgt := 32) dX7_wearer_20 rfl rfl (by omega) (fun c_20 => ?_) (fun c_20 => absurd c_20 (by decide))
      refine xj_bipush (pc2 := 34) dX7_wearer_32 rfl (by decide) ?_
      refine xj_iret dX7_wearer_34 rfl ?_
      first
      | exact hq
      | exact q_eq (by unfold wearerZ; (repeat' split) <;> first | (exfalso; omega) | rfl | omega) hq
  · -- X7_isWearer = 0
    intro c_2
    refine xj_if_ne (pc2 := 8) (tgt := 13) dX7_wearer_5 rfl rfl (by omega) (fun c_5 => absurd c_5 (by decide)) (fun c_5 => ?_)
    refine xj_bipush (pc2 := 10) dX7_wearer_8 rfl (by decide) ?_
    refine xj_goto (tgt := 34) dX7_wearer_10 rfl ?_
    refine xj_iret dX7_wearer_34 rfl ?_
    first
    | exact hq
    | exact q_eq (by unfold wearerZ; (repeat' split) <;> first | (exfalso; omega) | rfl | omega) hq
theorem c_X7_mood {S : Sh} {g x : Int} {h : Hp} {Q : Int → Hp → Prop} (hM : RM S h) (hW : WF S) (hg : -2147483648 ≤ g ∧ g ≤ 2147483647) (hx : -2147483648 ≤ x ∧ x ≤ 2147483647) (hq : Q (moodV S g x) h) : CJ 4 kX7_mood [.ref 9, vi g, vi x] h Q := by
  have hnn := wf_n hW
  have hng := nG_eq hW
  have hbs := bsum_le6 (p := heldP S g) (n := nG S) (by omega)
  refine cj_of (lo := [some (.ref 9), some (vi g), some (vi x)]) mok_X7_mood (fun _ => rfl) (fun _ => Nat.le_of_ble_eq_true rfl) ?_
  refine xj_aload_n (pc2 := 1) dX7_mood_0 rfl rfl rfl ?_
  refine xj_iload_n (pc2 := 2) dX7_mood_1 rfl rfl rfl ?_
  refine xj_V1I (pc2 := 5) (d2 := 1) mok_X7_isWearer ml_X7_182 ima_yX7_isWearer sel_yX7_isWearer rfl rfl dX7_mood_2 rfl rfl (by decide) (by decide) (Nat.le_of_ble_eq_true rfl) (fun _ => rfl) ?_
  refine c_X7_isWearer hM hW (by omega) ?_ ?_
  · -- X7_isWearer = 1
    intro c_2
    refine xj_if_ne (pc2 := 8) (tgt := 11) dX7_mood_5 rfl rfl (by omega) (fun c_5 => ?_) (fun c_5 => absurd c_5 (by decide))
    refine xj_iload_n (pc2 := 12) dX7_mood_11 rfl rfl rfl ?_
    refine xj_iconst (pc2 := 13) dX7_mood_12 rfl ?_
    refine xj_bipush (pc2 := 15) dX7_mood_13 rfl (by decide) ?_
    refine xj_S3I (pc2 := 18) (d2 := 0) mok_X7_within ml_X7_77 sta_yX7_within dX7_mood_15 rfl rfl (by decide) (by decide) (Nat.le_of_ble_eq_true rfl) (fun _ => rfl) ?_
    refine c_X7_within (by omega) (by omega) (by omega) ?_ ?_
    · -- X7_within = 1
      intro c_15
      refine xj_if_eq (pc2 := 21) (tgt := 35) dX7_mood_18 rfl rfl (by omega) (fun c_18 => absurd c_18 (by decide)) (fun c_18 => ?_)
      refine xj_aload_n (pc2 := 22) dX7_mood_21 rfl rfl rfl ?_
      refine xj_iload_n (pc2 := 23) dX7_mood_22 rfl rfl rfl ?_
      refine xj_aload_n (pc2 := 24) dX7_mood_23 rfl rfl rfl ?_
      refine xj_iload_n (pc2 := 25) dX7_mood_24 rfl rfl rfl ?_
      refine xj_V1I (pc2 := 28) (d2 := 0) mok_X7_wornBy ml_X7_146 ima_yX7_wornBy sel_yX7_wornBy rfl rfl dX7_mood_25 rfl rfl (by decide) (by decide) (Nat.le_of_ble_eq_true rfl) (fun _ => rfl) ?_
      refine c_X7_wornBy hM hW (by omega) ?_
      refine xj_iload_n (pc2 := 29) dX7_mood_28 rfl rfl rfl ?_
      refine xj_V3I (pc2 := 32) (d2 := 3) mok_X7_moodWith ml_X7_149 ima_yX7_moodWith sel_yX7_moodWith rfl rfl dX7_mood_29 rfl rfl (by decide) (by decide) (Nat.le_of_ble_eq_true rfl) (fun _ => rfl) ?_
      refine c_X7_moodWith hM hW (by omega) (by omega) (by omega) ?_
      refine xj_goto (tgt := 37) dX7_mood_32 rfl ?_
      refine xj_iret dX7_mood_37 rfl ?_
      exact q_eq (by unfold moodV; (repeat' split) <;> first | (exfalso; omega) | rfl | omega) hq
    · -- X7_within = 0
      intro c_15
      refine xj_if_eq (pc2 := 21) (tgt := 35) dX7_mood_18 rfl rfl (by omega) (fun c_18 => ?_) (fun c_18 => absurd c_18 (by decide))
      refine xj_bipush (pc2 := 37) dX7_mood_35 rfl (by decide) ?_
      refine xj_iret dX7_mood_37 rfl ?_
      exact q_eq (by unfold moodV; (repeat' split) <;> first | (exfalso; omega) | rfl | omega) hq
  · -- X7_isWearer = 0
    intro c_2
    refine xj_if_ne (pc2 := 8) (tgt := 11) dX7_mood_5 rfl rfl (by omega) (fun c_5 => absurd c_5 (by decide)) (fun c_5 => ?_)
    refine xj_bipush (pc2 := 10) dX7_mood_8 rfl (by decide) ?_
    refine xj_iret dX7_mood_10 rfl ?_
    exact q_eq (by unfold moodV; (repeat' split) <;> first | (exfalso; omega) | rfl | omega) hq
