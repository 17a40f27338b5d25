/-! the page of the class -/
def RP (len : Int) (pg : Int → Int) (h : Hp) : Prop := h 1 1 = len ∧ (0 ≤ len ∧ len ≤ 26) ∧ ∀ i, 0 ≤ i → i < len → h 17 i = pg i ∧ 32 ≤ pg i ∧ pg i ≤ 126
def semP (pg : Int → Int) : Nat → Bool := fun i => decide (pg i = 59)
def semZ (len : Int) (pg : Int → Int) : Int := fnd (semP pg) len.toNat
def nervP (c k : Int) : Prop := (48 ≤ c ∧ c ≤ 57) ∧ k ≤ 3
def ofGP (c p : Int) : Prop := (p % 3 = 0 ∧ ¬ kindz c = -1) ∨ (p % 3 = 1 ∧ (48 ≤ c ∧ c ≤ 57)) ∨ (p % 3 = 2 ∧ ((c = 44 ∧ p / 3 + 1 < 6) ∨ (c = 59 ∧ 2 ≤ p / 3 + 1)))
def okP (len : Int) (pg : Int → Int) (i : Int) : Prop := ((semZ len pg ≠ -1 ∧ semZ len pg < i) → nervP (pg i) (i - semZ len pg)) ∧ (¬ (semZ len pg ≠ -1 ∧ semZ len pg < i) → ofGP (pg i) i)
noncomputable def okN (len : Int) (pg : Int → Int) : Nat → Bool := fun i => @decide (¬ okP len pg i) (Classical.propDecidable _)
/-- the place of the first fault -/
noncomputable def fltZ (len : Int) (pg : Int → Int) : Int := if fnd (okN len pg) len.toNat = -1 then len else fnd (okN len pg) len.toNat
def shopP (len : Int) (pg : Int → Int) : Prop := semZ len pg ≠ -1 ∧ semZ len pg + 1 < len ∧ fltZ len pg = len
theorem okN_t {len : Int} {pg : Int → Int} {i : Nat} (h : okP len pg i) : okN len pg i = false := by
  unfold okN
  exact @decide_eq_false _ (Classical.propDecidable _) (fun q => q h)
theorem okN_f {len : Int} {pg : Int → Int} {i : Nat} (h : ¬ okP len pg i) : okN len pg i = true := by
  unfold okN
  exact @decide_eq_true _ (Classical.propDecidable _) h
theorem flt_no {len : Int} {pg : Int → Int} (h0 : 0 ≤ len) (h : ∀ i : Nat, (i : Int) < len → okP len pg i) : fltZ len pg = len := by
  unfold fltZ
  rw [fnd_no (p := okN len pg) len.toNat (fun j hj => okN_t (h j (by omega))), if_pos rfl]
theorem flt_at {len : Int} {pg : Int → Int} {j : Nat} (hj : (j : Int) < len) (h : ∀ i : Nat, i < j → okP len pg i) (hn : ¬ okP len pg j) : fltZ len pg = j := by
  unfold fltZ
  rw [fnd_at (p := okN len pg) (i := j) len.toNat (by omega) (okN_f hn) (fun i hi => okN_t (h i hi)), if_neg (by omega)]
theorem sem_no {len : Int} {pg : Int → Int} (h : ∀ i : Nat, (i : Int) < len → pg i ≠ 59) : semZ len pg = -1 := by
  unfold semZ
  exact fnd_no (p := semP pg) len.toNat (fun j hj => decide_eq_false (h j (by omega)))
theorem sem_at {len : Int} {pg : Int → Int} {j : Nat} (hj : (j : Int) < len) (h : ∀ i : Nat, i < j → pg i ≠ 59) (hn : pg j = 59) : semZ len pg = j := by
  unfold semZ
  exact fnd_at (p := semP pg) (i := j) len.toNat (by omega) (decide_eq_true hn) (fun i hi => decide_eq_false (h i hi))
theorem fnd_rg (p : Nat → Bool) : ∀ n, -1 ≤ fnd p n ∧ fnd p n < n
  | 0 => by simp [fnd]
  | n + 1 => by
    have := fnd_rg p n
    unfold fnd
    (repeat' split) <;> omega
theorem sem_rg (len : Int) (h : 0 ≤ len) (pg : Int → Int) : -1 ≤ semZ len pg ∧ semZ len pg < len := by
  have := fnd_rg (semP pg) len.toNat
  unfold semZ
  omega
theorem flt_rg (len : Int) (h : 0 ≤ len) (pg : Int → Int) : 0 ≤ fltZ len pg ∧ fltZ len pg ≤ len := by
  have := fnd_rg (okN len pg) len.toNat
  unfold fltZ
  split <;> omega
theorem c_X4_add {len c : Int} {pg : Int → Int} {h : Hp} {Q : Int → Hp → Prop} (hP : RP len pg h) (h1 : len < 26 → Q 1 (hset (hset h 17 len c) 1 1 (len + 1))) (h0 : ¬ (len < 26) → Q 0 h) : CJ 1 kX4_add [.ref 1, vi c] h Q := by
  obtain ⟨hl, hlr, hpg⟩ := id hP
  refine cj_of (lo := [some (.ref 1), some (vi c)]) mok_X4_add (fun _ => rfl) (fun _ => Nat.le_of_ble_eq_true rfl) ?_
  refine xj_aload_n (pc2 := 1) dX4_add_0 rfl rfl rfl ?_
  refine xj_getI (pc2 := 4) (kz := 1) fok_X4_15 dX4_add_1 rfl rfl rfl (by decide) rfl (by first | assumption | rfl) ?_
  refine xj_bipush (pc2 := 6) dX4_add_4 rfl (by decide) ?_
  refine xj_cmp_lt (pc2 := 9) (tgt := 11) dX4_add_6 rfl rfl (by omega) (by omega) (fun c_6 => ?_) (fun c_6 => ?_)
  · -- 11
    refine xj_aload_n (pc2 := 12) dX4_add_11 rfl rfl rfl ?_
    refine xj_getRn (pc2 := 15) (c2 := 17) fok_X4_9 dX4_add_12 rfl rfl rfl rfl rfl ?_
    refine xj_aload_n (pc2 := 16) dX4_add_15 rfl rfl rfl ?_
    refine xj_getI (pc2 := 19) (kz := 1) fok_X4_15 dX4_add_16 rfl rfl rfl (by decide) rfl (by first | assumption | rfl) ?_
    refine xj_iload_n (pc2 := 20) dX4_add_19 rfl rfl rfl ?_
    refine xj_N3V (pc2 := 23) (d2 := 0) mok_X6_put mn_X4_19 sta_yX6_put dX4_add_20 rfl rfl (by decide) (by decide) (Nat.le_of_ble_eq_true rfl) (fun _ => rfl) ?_
    refine c_X6_put rfl (by omega) (by decide) ?_
    refine xj_aload_n (pc2 := 24) dX4_add_23 rfl rfl rfl ?_
    refine xj_dup (pc2 := 25) dX4_add_24 rfl rfl ?_
    refine xj_getI (pc2 := 28) (kz := 1) fok_X4_15 dX4_add_25 rfl rfl rfl (by decide) rfl ((hset_nc (by decide)).trans hl) ?_
    refine xj_iconst (pc2 := 29) dX4_add_28 rfl ?_
    refine xj_iadd (pc2 := 30) dX4_add_29 rfl ?_
    refine xj_putI (pc2 := 33) (kz := 1) fok_X4_15 dX4_add_30 rfl rfl rfl rfl rfl ?_
    refine xj_iconst (pc2 := 34) dX4_add_33 rfl ?_
    refine xj_zret dX4_add_34 rfl (by decide) ?_
    first | exact h1 (by omega) | exact h0 (by omega)
  · -- 9
    refine xj_iconst (pc2 := 10) dX4_add_9 rfl ?_
    refine xj_zret dX4_add_10 rfl (by decide) ?_
    first | exact h1 (by omega) | exact h0 (by omega)
theorem c_X4_semicolon {len : Int} {pg : Int → Int} {h : Hp} {Q : Int → Hp → Prop} (hP : RP len pg h) (hq : Q (semZ len pg) h) : CJ 1 kX4_semicolon [.ref 1] h Q := by
  obtain ⟨hl, hlr, hpg⟩ := id hP
  obtain ⟨n, rfl⟩ := Int.eq_ofNat_of_zero_le hlr.1
  refine cj_of (lo := [some (.ref 1), none]) mok_X4_semicolon (fun _ => rfl) (fun _ => Nat.le_of_ble_eq_true rfl) ?_
  refine xj_iconst (pc2 := 1) dX4_semicolon_0 rfl ?_
  refine xj_istore1 (pc2 := 2) dX4_semicolon_1 rfl rfl (by decide) rfl ?_
  refine down (P := fun j => (∀ i : Nat, i < j → pg i ≠ 59) → XJ none 1 kX4_semicolon h 2 [some (.ref 1), some (vi j)] [] Q) (n := n) ?_ ?_ (fun i hi => by omega)
  · intro hall
    refine xj_iload_n (pc2 := 3) dX4_semicolon_2 rfl rfl rfl ?_
    refine xj_aload_n (pc2 := 4) dX4_semicolon_3 rfl rfl rfl ?_
    refine xj_getI (pc2 := 7) (kz := 1) fok_X4_15 dX4_semicolon_4 rfl rfl rfl (by decide) rfl (by first | assumption | rfl) ?_
    refine xj_cmp_ge (pc2 := 10) (tgt := 31) dX4_semicolon_7 rfl rfl (by omega) (by omega) (fun c_7 => ?_) (fun c_7 => by exfalso; omega)
    refine xj_iconst (pc2 := 32) dX4_semicolon_31 rfl ?_
    refine xj_iret dX4_semicolon_32 rfl ?_
    exact q_eq (sem_no (fun i hi => hall i (by omega))).symm hq
  · intro j hj ih hall
    have hpj := hpg j (by omega) (by omega)
    refine xj_iload_n (pc2 := 3) dX4_semicolon_2 rfl rfl rfl ?_
    refine xj_aload_n (pc2 := 4) dX4_semicolon_3 rfl rfl rfl ?_
    refine xj_getI (pc2 := 7) (kz := 1) fok_X4_15 dX4_semicolon_4 rfl rfl rfl (by decide) rfl (by first | assumption | rfl) ?_
    refine xj_cmp_ge (pc2 := 10) (tgt := 31) dX4_semicolon_7 rfl rfl (by omega) (by omega) (fun c_7 => by exfalso; omega) (fun c_7 => ?_)
    refine xj_aload_n (pc2 := 11) dX4_semicolon_10 rfl rfl rfl ?_
    refine xj_getRn (pc2 := 14) (c2 := 17) fok_X4_9 dX4_semicolon_11 rfl rfl rfl rfl rfl ?_
    refine xj_iload_n (pc2 := 15) dX4_semicolon_14 rfl rfl rfl ?_
    refine xj_N2I (pc2 := 18) (d2 := 0) mok_X6_at mn_X4_23 sta_yX6_at dX4_semicolon_15 rfl rfl (by decide) (by decide) (Nat.le_of_ble_eq_true rfl) (fun _ => rfl) ?_
    refine c_X6_at rfl (by omega) (by decide) hpj.1 ?_
    refine xj_bipush (pc2 := 20) dX4_semicolon_18 rfl (by decide) ?_
    refine xj_cmp_ne (pc2 := 23) (tgt := 25) dX4_semicolon_20 rfl rfl (by omega) (by omega) (fun c_20 => ?_) (fun c_20 => ?_)
    · -- 25
      refine xj_iinc1 (pc2 := 28) dX4_semicolon_25 rfl (by decide) rfl ?_
      refine xj_goto (tgt := 2) dX4_semicolon_28 rfl ?_
      exact ih (fun i hi => by
        by_cases e : i = j
        · subst e; exact c_20
        · exact hall i (by omega))
    · -- 23
      refine xj_iload_n (pc2 := 24) dX4_semicolon_23 rfl rfl rfl ?_
      refine xj_iret dX4_semicolon_24 rfl ?_
      exact q_eq (sem_at (by omega) hall c_20).symm hq
theorem c_X4_isDigit {c : Int} {h : Hp} {Q : Int → Hp → Prop} (hc : -2147483648 ≤ c ∧ c ≤ 2147483647) (h1 : 48 ≤ c ∧ c ≤ 57 → Q 1 h) (h0 : ¬ (48 ≤ c ∧ c ≤ 57) → Q 0 h) : CJ 1 kX4_isDigit [vi c] h Q := by
  refine cj_of (lo := [some (vi c)]) mok_X4_isDigit (fun _ => rfl) (fun _ => Nat.le_of_ble_eq_true rfl) ?_
  refine xj_iload_n (pc2 := 1) dX4_isDigit_0 rfl rfl rfl ?_
  refine xj_bipush (pc2 := 3) dX4_isDigit_1 rfl (by decide) ?_
  refine xj_bipush (pc2 := 5) dX4_isDigit_3 rfl (by decide) ?_
  refine xj_N3I (pc2 := 8) (d2 := 0) mok_X6_within mn_X4_49 sta_yX6_within dX4_isDigit_5 rfl rfl (by decide) (by decide) (Nat.le_of_ble_eq_true rfl) (fun _ => rfl) ?_
  refine c_X6_within (by omega) (by omega) (by omega) ?_ ?_
  · -- X6_within = 1
    intro c_5
    refine xj_zret dX4_isDigit_8 rfl (by decide) ?_
    first | exact h1 c_5 | exact h0 c_5
  · -- X6_within = 0
    intro c_5
    refine xj_zret dX4_isDigit_8 rfl (by decide) ?_
    first | exact h1 c_5 | exact h0 c_5
theorem c_X4_isNerve {c k : Int} {h : Hp} {Q : Int → Hp → Prop} (hc : -2147483648 ≤ c ∧ c ≤ 2147483647) (hk : -2147483648 ≤ k ∧ k ≤ 2147483647) (h1 : nervP c k → Q 1 h) (h0 : ¬ nervP c k → Q 0 h) : CJ 2 kX4_isNerve [vi c, vi k] h Q := by
  unfold nervP at h1 h0
  refine cj_of (lo := [some (vi c), some (vi k)]) mok_X4_isNerve (fun _ => rfl) (fun _ => Nat.le_of_ble_eq_true rfl) ?_
  refine xj_iload_n (pc2 := 1) dX4_isNerve_0 rfl rfl rfl ?_
  refine xj_S1I (pc2 := 4) (d2 := 1) mok_X4_isDigit ml_X4_45 sta_yX4_isDigit dX4_isNerve_1 rfl rfl (by decide) (by decide) (Nat.le_of_ble_eq_true rfl) (fun _ => rfl) ?_
  refine c_X4_isDigit (by omega) ?_ ?_
  · -- X4_isDigit = 1
    intro c_1
    refine xj_if_eq (pc2 := 7) (tgt := 16) dX4_isNerve_4 rfl rfl (by omega) (fun c_4 => absurd c_4 (by decide)) (fun c_4 => ?_)
    refine xj_iload_n (pc2 := 8) dX4_isNerve_7 rfl rfl rfl ?_
    refine xj_iconst (pc2 := 9) dX4_isNerve_8 rfl ?_
    refine xj_cmp_gt (pc2 := 12) (tgt := 16) dX4_isNerve_9 rfl rfl (by omega) (by omega) (fun c_9 => ?_) (fun c_9 => ?_)
    · -- 16
      refine xj_iconst (pc2 := 17) dX4_isNerve_16 rfl ?_
      refine xj_zret dX4_isNerve_17 rfl (by decide) ?_
      first | exact h1 (by omega) | exact h0 (by omega)
    · -- 12
      refine xj_iconst (pc2 := 13) dX4_isNerve_12 rfl ?_
      refine xj_goto (tgt := 17) dX4_isNerve_13 rfl ?_
      refine xj_zret dX4_isNerve_17 rfl (by decide) ?_
      first | exact h1 (by omega) | exact h0 (by omega)
  · -- X4_isDigit = 0
    intro c_1
    refine xj_if_eq (pc2 := 7) (tgt := 16) dX4_isNerve_4 rfl rfl (by omega) (fun c_4 => ?_) (fun c_4 => absurd c_4 (by decide))
    refine xj_iconst (pc2 := 17) dX4_isNerve_16 rfl ?_
    refine xj_zret dX4_isNerve_17 rfl (by decide) ?_
    first | exact h1 (by omega) | exact h0 (by omega)
theorem kindz_rg (c : Int) : -1 ≤ kindz c ∧ kindz c ≤ 4 := by unfold kindz; (repeat' split) <;> omega
theorem c_X4_isOfGloves {c p : Int} {h : Hp} {Q : Int → Hp → Prop} (hc : -2147483648 ≤ c ∧ c ≤ 2147483647) (hk : 0 ≤ p ∧ p ≤ 1000) (h1 : ofGP c p → Q 1 h) (h0 : ¬ ofGP c p → Q 0 h) : CJ 2 kX4_isOfGloves [vi c, vi p] h Q := by
  unfold ofGP at h1 h0
  have hkz := kindz_rg c
  refine cj_of (lo := [some (vi c), some (vi p), none]) mok_X4_isOfGloves (fun _ => rfl) (fun _ => Nat.le_of_ble_eq_true rfl) ?_
  refine xj_iload_n (pc2 := 1) dX4_isOfGloves_0 rfl rfl rfl ?_
  refine xj_iconst (pc2 := 2) dX4_isOfGloves_1 rfl ?_
  refine xj_idiv (pc2 := 3) dX4_isOfGloves_2 rfl (by omega) (by omega) ?_
  refine xj_iconst (pc2 := 4) dX4_isOfGloves_3 rfl ?_
  refine xj_iadd (pc2 := 5) dX4_isOfGloves_4 rfl ?_
  refine xj_istore2 (pc2 := 6) dX4_isOfGloves_5 rfl rfl (by decide) rfl ?_
  refine xj_iload_n (pc2 := 7) dX4_isOfGloves_6 rfl rfl rfl ?_
  refine xj_iconst (pc2 := 8) dX4_isOfGloves_7 rfl ?_
  refine xj_irem (pc2 := 9) dX4_isOfGloves_8 rfl (by omega) (by omega) ?_
  refine tsw_X4_isOfGloves_9 (by omega) (fun c_9 => ?_) (fun c_9 => ?_) (fun c_9 => ?_)
  · -- 36
    refine xj_iload_n (pc2 := 37) dX4_isOfGloves_36 rfl rfl rfl ?_
    refine xj_N1I (pc2 := 40) (d2 := 0) mok_X6_kindOf mn_X4_41 sta_yX6_kindOf dX4_isOfGloves_37 rfl rfl (by decide) (by decide) (Nat.le_of_ble_eq_true rfl) (fun _ => rfl) ?_
    refine c_X6_kindOf (by omega) ?_
    refine xj_iconst (pc2 := 41) dX4_isOfGloves_40 rfl ?_
    refine xj_cmp_eq (pc2 := 44) (tgt := 48) dX4_isOfGloves_41 rfl rfl (by omega) (by omega) (fun c_41 => ?_) (fun c_41 => ?_)
    · -- 48
      refine xj_iconst (pc2 := 49) dX4_isOfGloves_48 rfl ?_
      refine xj_zret dX4_isOfGloves_49 rfl (by decide) ?_
      first | exact h1 (by omega) | exact h0 (by omega)
    · -- 44
      refine xj_iconst (pc2 := 45) dX4_isOfGloves_44 rfl ?_
      refine xj_goto (tgt := 49) dX4_isOfGloves_45 rfl ?_
      refine xj_zret dX4_isOfGloves_49 rfl (by decide) ?_
      first | exact h1 (by omega) | exact h0 (by omega)
  · -- 50
    refine xj_iload_n (pc2 := 51) dX4_isOfGloves_50 rfl rfl rfl ?_
    refine xj_S1I (pc2 := 54) (d2 := 1) mok_X4_isDigit ml_X4_45 sta_yX4_isDigit dX4_isOfGloves_51 rfl rfl (by decide) (by decide) (Nat.le_of_ble_eq_true rfl) (fun _ => rfl) ?_
    refine c_X4_isDigit (by omega) ?_ ?_
    · -- X4_isDigit = 1
      intro c_51
      refine xj_zret dX4_isOfGloves_54 rfl (by decide) ?_
      first | exact h1 (by omega) | exact h0 (by omega)
    · -- X4_isDigit = 0
      intro c_51
      refine xj_zret dX4_isOfGloves_54 rfl (by decide) ?_
      first | exact h1 (by omega) | exact h0 (by omega)
  · -- 55
    refine xj_iload_n (pc2 := 56) dX4_isOfGloves_55 rfl rfl rfl ?_
    refine xj_bipush (pc2 := 58) dX4_isOfGloves_56 rfl (by decide) ?_
    refine xj_cmp_ne (pc2 := 61) (tgt := 67) dX4_isOfGloves_58 rfl rfl (by omega) (by omega) (fun c_58 => ?_) (fun c_58 => ?_)
    · -- 67
      refine xj_iload_n (pc2 := 68) dX4_isOfGloves_67 rfl rfl rfl ?_
      refine xj_bipush (pc2 := 70) dX4_isOfGloves_68 rfl (by decide) ?_
      refine xj_cmp_ne (pc2 := 73) (tgt := 82) dX4_isOfGloves_70 rfl rfl (by omega) (by omega) (fun c_70 => ?_) (fun c_70 => ?_)
      · -- 82
        refine xj_iconst (pc2 := 83) dX4_isOfGloves_82 rfl ?_
        refine xj_zret dX4_isOfGloves_83 rfl (by decide) ?_
        first | exact h1 (by omega) | exact h0 (by omega)
      · -- 73
        refine xj_iload_n (pc2 := 74) dX4_isOfGloves_73 rfl rfl rfl ?_
        refine xj_iconst (pc2 := 75) dX4_isOfGloves_74 rfl ?_
        refine xj_cmp_lt (pc2 := 78) (tgt := 82) dX4_isOfGloves_75 rfl rfl (by omega) (by omega) (fun c_75 => ?_) (fun c_75 => ?_)
        · -- 82
          refine xj_iconst (pc2 := 83) dX4_isOfGloves_82 rfl ?_
          refine xj_zret dX4_isOfGloves_83 rfl (by decide) ?_
          first | exact h1 (by omega) | exact h0 (by omega)
        · -- 78
          refine xj_iconst (pc2 := 79) dX4_isOfGloves_78 rfl ?_
          refine xj_goto (tgt := 83) dX4_isOfGloves_79 rfl ?_
          refine xj_zret dX4_isOfGloves_83 rfl (by decide) ?_
          first | exact h1 (by omega) | exact h0 (by omega)
    · -- 61
      refine xj_iload_n (pc2 := 62) dX4_isOfGloves_61 rfl rfl rfl ?_
      refine xj_bipush (pc2 := 64) dX4_isOfGloves_62 rfl (by decide) ?_
      refine xj_cmp_lt (pc2 := 67) (tgt := 78) dX4_isOfGloves_64 rfl rfl (by omega) (by omega) (fun c_64 => ?_) (fun c_64 => ?_)
      · -- 78
        refine xj_iconst (pc2 := 79) dX4_isOfGloves_78 rfl ?_
        refine xj_goto (tgt := 83) dX4_isOfGloves_79 rfl ?_
        refine xj_zret dX4_isOfGloves_83 rfl (by decide) ?_
        first | exact h1 (by omega) | exact h0 (by omega)
      · -- 67
        refine xj_iload_n (pc2 := 68) dX4_isOfGloves_67 rfl rfl rfl ?_
        refine xj_bipush (pc2 := 70) dX4_isOfGloves_68 rfl (by decide) ?_
        refine xj_cmp_ne (pc2 := 73) (tgt := 82) dX4_isOfGloves_70 rfl rfl (by omega) (by omega) (fun c_70 => ?_) (fun c_70 => ?_)
        · -- 82
          refine xj_iconst (pc2 := 83) dX4_isOfGloves_82 rfl ?_
          refine xj_zret dX4_isOfGloves_83 rfl (by decide) ?_
          first | exact h1 (by omega) | exact h0 (by omega)
        · -- 73
          refine xj_iload_n (pc2 := 74) dX4_isOfGloves_73 rfl rfl rfl ?_
          refine xj_iconst (pc2 := 75) dX4_isOfGloves_74 rfl ?_
          refine xj_cmp_lt (pc2 := 78) (tgt := 82) dX4_isOfGloves_75 rfl rfl (by omega) (by omega) (fun c_75 => ?_) (fun c_75 => ?_)
          · -- 82
            refine xj_iconst (pc2 := 83) dX4_isOfGloves_82 rfl ?_
            refine xj_zret dX4_isOfGloves_83 rfl (by decide) ?_
            first | exact h1 (by omega) | exact h0 (by omega)
          · -- 78
            refine xj_iconst (pc2 := 79) dX4_isOfGloves_78 rfl ?_
            refine xj_goto (tgt := 83) dX4_isOfGloves_79 rfl ?_
            refine xj_zret dX4_isOfGloves_83 rfl (by decide) ?_
            first | exact h1 (by omega) | exact h0 (by omega)
theorem c_X4_firstFault {len : Int} {pg : Int → Int} {h : Hp} {Q : Int → Hp → Prop} (hP : RP len pg h) (hq : Q (fltZ len pg) h) : CJ 3 kX4_firstFault [.ref 1] h Q := by
  obtain ⟨hl, hlr, hpg⟩ := id hP
  obtain ⟨n, rfl⟩ := Int.eq_ofNat_of_zero_le hlr.1
  have hsr := sem_rg n hlr.1 pg
  refine cj_of (lo := [some (.ref 1), none, none, none, none]) mok_X4_firstFault (fun _ => rfl) (fun _ => Nat.le_of_ble_eq_true rfl) ?_
  refine xj_aload_n (pc2 := 1) dX4_firstFault_0 rfl rfl rfl ?_
  refine xj_V0I (pc2 := 4) (d2 := 1) mok_X4_semicolon ml_X4_27 ima_yX4_semicolon sel_yX4_semicolon rfl rfl dX4_firstFault_1 rfl rfl (by decide) (by decide) (Nat.le_of_ble_eq_true rfl) (fun _ => rfl) ?_
  refine c_X4_semicolon hP ?_
  refine xj_istore1 (pc2 := 5) dX4_firstFault_4 rfl rfl (by decide) rfl ?_
  refine xj_iconst (pc2 := 6) dX4_firstFault_5 rfl ?_
  refine xj_istore2 (pc2 := 7) dX4_firstFault_6 rfl rfl (by decide) rfl ?_
  refine down (P := fun j => (∀ i : Nat, i < j → okP n pg i) → XJ none 3 kX4_firstFault h 7 [some (.ref 1), some (vi (semZ n pg)), some (vi j), none, none] [] Q) (n := n) ?_ ?_ (fun i hi => by omega)
  · intro hall
    refine xj_iload_n (pc2 := 8) dX4_firstFault_7 rfl rfl rfl ?_
    refine xj_aload_n (pc2 := 9) dX4_firstFault_8 rfl rfl rfl ?_
    refine xj_getI (pc2 := 12) (kz := 1) fok_X4_15 dX4_firstFault_9 rfl rfl rfl (by decide) rfl (by first | assumption | rfl) ?_
    refine xj_cmp_ge (pc2 := 15) (tgt := 75) dX4_firstFault_12 rfl rfl (by omega) (by omega) (fun c_12 => ?_) (fun c_12 => by exfalso; omega)
    refine xj_aload_n (pc2 := 76) dX4_firstFault_75 rfl rfl rfl ?_
    refine xj_getI (pc2 := 79) (kz := 1) fok_X4_15 dX4_firstFault_76 rfl rfl rfl (by decide) rfl (by first | assumption | rfl) ?_
    refine xj_iret dX4_firstFault_79 rfl ?_
    exact q_eq (flt_no hlr.1 (fun i hi => hall i (by omega))).symm hq
  · intro j hj ih hall
    have hpj := hpg j (by omega) (by omega)
    refine xj_iload_n (pc2 := 8) dX4_firstFault_7 rfl rfl rfl ?_
    refine xj_aload_n (pc2 := 9) dX4_firstFault_8 rfl rfl rfl ?_
    refine xj_getI (pc2 := 12) (kz := 1) fok_X4_15 dX4_firstFault_9 rfl rfl rfl (by decide) rfl (by first | assumption | rfl) ?_
    refine xj_cmp_ge (pc2 := 15) (tgt := 75) dX4_firstFault_12 rfl rfl (by omega) (by omega) (fun c_12 => by exfalso; omega) (fun c_12 => ?_)
    refine xj_aload_n (pc2 := 16) dX4_firstFault_15 rfl rfl rfl ?_
    refine xj_getRn (pc2 := 19) (c2 := 17) fok_X4_9 dX4_firstFault_16 rfl rfl rfl rfl rfl ?_
    refine xj_iload_n (pc2 := 20) dX4_firstFault_19 rfl rfl rfl ?_
    refine xj_N2I (pc2 := 23) (d2 := 0) mok_X6_at mn_X4_23 sta_yX6_at dX4_firstFault_20 rfl rfl (by decide) (by decide) (Nat.le_of_ble_eq_true rfl) (fun _ => rfl) ?_
    refine c_X6_at rfl (by omega) (by decide) hpj.1 ?_
    refine xj_istore3 (pc2 := 24) dX4_firstFault_23 rfl rfl (by decide) rfl ?_
    refine xj_iload_n (pc2 := 25) dX4_firstFault_24 rfl rfl rfl ?_
    refine xj_iconst (pc2 := 26) dX4_firstFault_25 rfl ?_
    refine xj_cmp_eq (pc2 := 29) (tgt := 38) dX4_firstFault_26 rfl rfl (by omega) (by omega) (fun c_26 => ?_) (fun c_26 => ?_)
    · -- 38
      refine xj_iconst (pc2 := 39) dX4_firstFault_38 rfl ?_
      refine xj_istore4 (pc2 := 41) dX4_firstFault_39 rfl (by decide) rfl ?_
      refine xj_iload (pc2 := 43) dX4_firstFault_41 rfl rfl ?_
      refine xj_if_eq (pc2 := 46) (tgt := 59) dX4_firstFault_43 rfl rfl (by omega) (fun c_43 => ?_) (fun c_43 => absurd c_43 (by decide))
      refine xj_iload_n (pc2 := 60) dX4_firstFault_59 rfl rfl rfl ?_
      refine xj_iload_n (pc2 := 61) dX4_firstFault_60 rfl rfl rfl ?_
      refine xj_S2I (pc2 := 64) (d2 := 2) mok_X4_isOfGloves ml_X4_35 sta_yX4_isOfGloves dX4_firstFault_61 rfl rfl (by decide) (by decide) (Nat.le_of_ble_eq_true rfl) (fun _ => rfl) ?_
      refine c_X4_isOfGloves (by omega) (by omega) ?_ ?_
      · -- X4_isOfGloves = 1
        intro c_61
        refine xj_if_ne (pc2 := 67) (tgt := 69) dX4_firstFault_64 rfl rfl (by omega) (fun c_64 => ?_) (fun c_64 => absurd c_64 (by decide))
        refine xj_iinc2 (pc2 := 72) dX4_firstFault_69 rfl (by decide) rfl ?_
        refine xj_goto (tgt := 7) dX4_firstFault_72 rfl ?_
        exact xj_sub (by repeat (first | exact subL_nil | apply subL_none | apply subL_some rfl)) (ih (fun i hi => by
          by_cases e : i = j
          · subst e
            first
            | exact ⟨fun q => c_50, fun q => absurd ⟨c_26, by omega⟩ q⟩
            | exact ⟨fun q => by exfalso; omega, fun q => c_61⟩
          · exact hall i (by omega)))
      · -- X4_isOfGloves = 0
        intro c_61
        refine xj_if_ne (pc2 := 67) (tgt := 69) dX4_firstFault_64 rfl rfl (by omega) (fun c_64 => absurd c_64 (by decide)) (fun c_64 => ?_)
        refine xj_iload_n (pc2 := 68) dX4_firstFault_67 rfl rfl rfl ?_
        refine xj_iret dX4_firstFault_68 rfl ?_
        refine q_eq (flt_at (by omega) hall (fun q => ?_)).symm hq
        first
        | exact c_50 (q.1 ⟨c_26, by omega⟩)
        | exact c_61 (q.2 (by omega))
    · -- 29
      refine xj_iload_n (pc2 := 30) dX4_firstFault_29 rfl rfl rfl ?_
      refine xj_iload_n (pc2 := 31) dX4_firstFault_30 rfl rfl rfl ?_
      refine xj_cmp_le (pc2 := 34) (tgt := 38) dX4_firstFault_31 rfl rfl (by omega) (by omega) (fun c_31 => ?_) (fun c_31 => ?_)
      · -- 38
        refine xj_iconst (pc2 := 39) dX4_firstFault_38 rfl ?_
        refine xj_istore4 (pc2 := 41) dX4_firstFault_39 rfl (by decide) rfl ?_
        refine xj_iload (pc2 := 43) dX4_firstFault_41 rfl rfl ?_
        refine xj_if_eq (pc2 := 46) (tgt := 59) dX4_firstFault_43 rfl rfl (by omega) (fun c_43 => ?_) (fun c_43 => absurd c_43 (by decide))
        refine xj_iload_n (pc2 := 60) dX4_firstFault_59 rfl rfl rfl ?_
        refine xj_iload_n (pc2 := 61) dX4_firstFault_60 rfl rfl rfl ?_
        refine xj_S2I (pc2 := 64) (d2 := 2) mok_X4_isOfGloves ml_X4_35 sta_yX4_isOfGloves dX4_firstFault_61 rfl rfl (by decide) (by decide) (Nat.le_of_ble_eq_true rfl) (fun _ => rfl) ?_
        refine c_X4_isOfGloves (by omega) (by omega) ?_ ?_
        · -- X4_isOfGloves = 1
          intro c_61
          refine xj_if_ne (pc2 := 67) (tgt := 69) dX4_firstFault_64 rfl rfl (by omega) (fun c_64 => ?_) (fun c_64 => absurd c_64 (by decide))
          refine xj_iinc2 (pc2 := 72) dX4_firstFault_69 rfl (by decide) rfl ?_
          refine xj_goto (tgt := 7) dX4_firstFault_72 rfl ?_
          exact xj_sub (by repeat (first | exact subL_nil | apply subL_none | apply subL_some rfl)) (ih (fun i hi => by
            by_cases e : i = j
            · subst e
              first
              | exact ⟨fun q => c_50, fun q => absurd ⟨c_26, by omega⟩ q⟩
              | exact ⟨fun q => by exfalso; omega, fun q => c_61⟩
            · exact hall i (by omega)))
        · -- X4_isOfGloves = 0
          intro c_61
          refine xj_if_ne (pc2 := 67) (tgt := 69) dX4_firstFault_64 rfl rfl (by omega) (fun c_64 => absurd c_64 (by decide)) (fun c_64 => ?_)
          refine xj_iload_n (pc2 := 68) dX4_firstFault_67 rfl rfl rfl ?_
          refine xj_iret dX4_firstFault_68 rfl ?_
          refine q_eq (flt_at (by omega) hall (fun q => ?_)).symm hq
          first
          | exact c_50 (q.1 ⟨c_26, by omega⟩)
          | exact c_61 (q.2 (by omega))
      · -- 34
        refine xj_iconst (pc2 := 35) dX4_firstFault_34 rfl ?_
        refine xj_goto (tgt := 39) dX4_firstFault_35 rfl ?_
        refine xj_istore4 (pc2 := 41) dX4_firstFault_39 rfl (by decide) rfl ?_
        refine xj_iload (pc2 := 43) dX4_firstFault_41 rfl rfl ?_
        refine xj_if_eq (pc2 := 46) (tgt := 59) dX4_firstFault_43 rfl rfl (by omega) (fun c_43 => absurd c_43 (by decide)) (fun c_43 => ?_)
        refine xj_iload_n (pc2 := 47) dX4_firstFault_46 rfl rfl rfl ?_
        refine xj_iload_n (pc2 := 48) dX4_firstFault_47 rfl rfl rfl ?_
        refine xj_iload_n (pc2 := 49) dX4_firstFault_48 rfl rfl rfl ?_
        refine xj_isub (pc2 := 50) dX4_firstFault_49 rfl ?_
        refine xj_S2I (pc2 := 53) (d2 := 2) mok_X4_isNerve ml_X4_31 sta_yX4_isNerve dX4_firstFault_50 rfl rfl (by decide) (by decide) (Nat.le_of_ble_eq_true rfl) (fun _ => rfl) ?_
        refine c_X4_isNerve (by omega) (by omega) ?_ ?_
        · -- X4_isNerve = 1
          intro c_50
          refine xj_if_ne (pc2 := 56) (tgt := 69) dX4_firstFault_53 rfl rfl (by omega) (fun c_53 => ?_) (fun c_53 => absurd c_53 (by decide))
          refine xj_iinc2 (pc2 := 72) dX4_firstFault_69 rfl (by decide) rfl ?_
          refine xj_goto (tgt := 7) dX4_firstFault_72 rfl ?_
          exact xj_sub (by repeat (first | exact subL_nil | apply subL_none | apply subL_some rfl)) (ih (fun i hi => by
            by_cases e : i = j
            · subst e
              first
              | exact ⟨fun q => c_50, fun q => absurd ⟨c_26, by omega⟩ q⟩
              | exact ⟨fun q => by exfalso; omega, fun q => c_61⟩
            · exact hall i (by omega)))
        · -- X4_isNerve = 0
          intro c_50
          refine xj_if_ne (pc2 := 56) (tgt := 69) dX4_firstFault_53 rfl rfl (by omega) (fun c_53 => absurd c_53 (by decide)) (fun c_53 => ?_)
          refine xj_goto (tgt := 67) dX4_firstFault_56 rfl ?_
          refine xj_iload_n (pc2 := 68) dX4_firstFault_67 rfl rfl rfl ?_
          refine xj_iret dX4_firstFault_68 rfl ?_
          refine q_eq (flt_at (by omega) hall (fun q => ?_)).symm hq
          first
          | exact c_50 (q.1 ⟨c_26, by omega⟩)
          | exact c_61 (q.2 (by omega))
theorem c_X4_isShop {len : Int} {pg : Int → Int} {h : Hp} {Q : Int → Hp → Prop} (hP : RP len pg h) (h1 : shopP len pg → Q 1 h) (h0 : ¬ shopP len pg → Q 0 h) : CJ 4 kX4_isShop [.ref 1] h Q := by
  obtain ⟨hl, hlr, hpg⟩ := id hP
  have hsr := sem_rg len hlr.1 pg
  have hfr := flt_rg len hlr.1 pg
  unfold shopP at h1 h0
  refine cj_of (lo := [some (.ref 1), none]) mok_X4_isShop (fun _ => rfl) (fun _ => Nat.le_of_ble_eq_true rfl) ?_
  refine xj_aload_n (pc2 := 1) dX4_isShop_0 rfl rfl rfl ?_
  refine xj_V0I (pc2 := 4) (d2 := 1) mok_X4_semicolon ml_X4_27 ima_yX4_semicolon sel_yX4_semicolon rfl rfl dX4_isShop_1 rfl rfl (by decide) (by decide) (Nat.le_of_ble_eq_true rfl) (fun _ => rfl) ?_
  refine c_X4_semicolon hP ?_
  refine xj_istore1 (pc2 := 5) dX4_isShop_4 rfl rfl (by decide) rfl ?_
  refine xj_iload_n (pc2 := 6) dX4_isShop_5 rfl rfl rfl ?_
  refine xj_iconst (pc2 := 7) dX4_isShop_6 rfl ?_
  refine xj_cmp_eq (pc2 := 10) (tgt := 35) dX4_isShop_7 rfl rfl (by omega) (by omega) (fun c_7 => ?_) (fun c_7 => ?_)
  · -- 35
    refine xj_iconst (pc2 := 36) dX4_isShop_35 rfl ?_
    refine xj_zret dX4_isShop_36 rfl (by decide) ?_
    first | exact h1 (by omega) | exact h0 (by omega)
  · -- 10
    refine xj_aload_n (pc2 := 11) dX4_isShop_10 rfl rfl rfl ?_
    refine xj_getI (pc2 := 14) (kz := 1) fok_X4_15 dX4_isShop_11 rfl rfl rfl (by decide) rfl (by first | assumption | rfl) ?_
    refine xj_iload_n (pc2 := 15) dX4_isShop_14 rfl rfl rfl ?_
    refine xj_iconst (pc2 := 16) dX4_isShop_15 rfl ?_
    refine xj_iadd (pc2 := 17) dX4_isShop_16 rfl ?_
    refine xj_cmp_le (pc2 := 20) (tgt := 35) dX4_isShop_17 rfl rfl (by omega) (by omega) (fun c_17 => ?_) (fun c_17 => ?_)
    · -- 35
      refine xj_iconst (pc2 := 36) dX4_isShop_35 rfl ?_
      refine xj_zret dX4_isShop_36 rfl (by decide) ?_
      first | exact h1 (by omega) | exact h0 (by omega)
    · -- 20
      refine xj_aload_n (pc2 := 21) dX4_isShop_20 rfl rfl rfl ?_
      refine xj_V0I (pc2 := 24) (d2 := 3) mok_X4_firstFault ml_X4_38 ima_yX4_firstFault sel_yX4_firstFault rfl rfl dX4_isShop_21 rfl rfl (by decide) (by decide) (Nat.le_of_ble_eq_true rfl) (fun _ => rfl) ?_
      refine c_X4_firstFault hP ?_
      refine xj_aload_n (pc2 := 25) dX4_isShop_24 rfl rfl rfl ?_
      refine xj_getI (pc2 := 28) (kz := 1) fok_X4_15 dX4_isShop_25 rfl rfl rfl (by decide) rfl (by first | assumption | rfl) ?_
      refine xj_cmp_ne (pc2 := 31) (tgt := 35) dX4_isShop_28 rfl rfl (by omega) (by omega) (fun c_28 => ?_) (fun c_28 => ?_)
      · -- 35
        refine xj_iconst (pc2 := 36) dX4_isShop_35 rfl ?_
        refine xj_zret dX4_isShop_36 rfl (by decide) ?_
        first | exact h1 (by omega) | exact h0 (by omega)
      · -- 31
        refine xj_iconst (pc2 := 32) dX4_isShop_31 rfl ?_
        refine xj_goto (tgt := 36) dX4_isShop_32 rfl ?_
        refine xj_zret dX4_isShop_36 rfl (by decide) ?_
        first | exact h1 (by omega) | exact h0 (by omega)
/-- a new shop by its text -/
def newS (pg : Int → Int) (n w : Int) : Sh := fun t k => if t = 0 then kindz (pg (3 * k)) else if t = 1 then pg (3 * k + 1) - 48 else if t = 2 then 0 else if t = 3 then -1 else if t = 4 then pg (3 * n + k) - 48 else if t = 5 then 2 else if k = 0 then n else if k = 1 then w else 0
theorem c_X4_readInto {len n w : Int} {pg : Int → Int} {h : Hp} {Q : Int → Hp → Prop} (hP : RP len pg h) (hn : 2 ≤ n ∧ n ≤ 6) (hw : 1 ≤ w ∧ w ≤ 3) (hlen : len = 3 * n + w) (hsem : semZ len pg = 3 * n - 1) (hq : ∀ h', RC 2 (newS pg n w) h' → (∀ c k, c ≠ 2 → (∀ i, i < 10 → c ≠ ch 2 i) → h' c k = h c k) → Q 0 h') : CJ 2 kX4_readInto [.ref 1, .ref 2] h Q := by
  obtain ⟨hl, hlr, hpg⟩ := id hP
  obtain ⟨nn, rfl⟩ := Int.eq_ofNat_of_zero_le (show 0 ≤ n by omega)
  obtain ⟨ww, rfl⟩ := Int.eq_ofNat_of_zero_le (show 0 ≤ w by omega)
  refine cj_of (lo := [some (.ref 1), some (.ref 2), none, none]) mok_X4_readInto (fun _ => rfl) (fun _ => Nat.le_of_ble_eq_true rfl) ?_
  refine xj_aload_n (pc2 := 1) dX4_readInto_0 rfl rfl rfl ?_
  refine xj_V0I (pc2 := 4) (d2 := 1) mok_X4_semicolon ml_X4_27 ima_yX4_semicolon sel_yX4_semicolon rfl rfl dX4_readInto_1 rfl rfl (by decide) (by decide) (Nat.le_of_ble_eq_true rfl) (fun _ => rfl) ?_
  refine c_X4_semicolon hP ?_
  rw [hsem]
  refine xj_istore2 (pc2 := 5) dX4_readInto_4 rfl rfl (by decide) rfl ?_
  refine xj_aload_n (pc2 := 6) dX4_readInto_5 rfl rfl rfl ?_
  refine xj_iload_n (pc2 := 7) dX4_readInto_6 rfl rfl rfl ?_
  refine xj_iconst (pc2 := 8) dX4_readInto_7 rfl ?_
  refine xj_iadd (pc2 := 9) dX4_readInto_8 rfl ?_
  refine xj_iconst (pc2 := 10) dX4_readInto_9 rfl ?_
  refine xj_idiv (pc2 := 11) dX4_readInto_10 rfl (by omega) (by omega) ?_
  refine xj_aload_n (pc2 := 12) dX4_readInto_11 rfl rfl rfl ?_
  refine xj_getI (pc2 := 15) (kz := 1) fok_X4_15 dX4_readInto_12 rfl rfl rfl (by decide) rfl (by first | assumption | rfl) ?_
  refine xj_iload_n (pc2 := 16) dX4_readInto_15 rfl rfl rfl ?_
  refine xj_isub (pc2 := 17) dX4_readInto_16 rfl ?_
  refine xj_iconst (pc2 := 18) dX4_readInto_17 rfl ?_
  refine xj_isub (pc2 := 19) dX4_readInto_18 rfl ?_
  refine xj_V2V (pc2 := 22) (d2 := 1) mok_X5_open ml_X4_53 ima_yX5_open sel_yX5_open rfl rfl dX4_readInto_19 rfl rfl (by decide) (by decide) (Nat.le_of_ble_eq_true rfl) (fun _ => rfl) ?_
  refine c_X5_open (Or.inl rfl) ?_
  intro h2 o1 o2 o3 o4
  refine xj_iconst (pc2 := 23) dX4_readInto_22 rfl ?_
  refine xj_istore3 (pc2 := 24) dX4_readInto_23 rfl rfl (by decide) rfl ?_
  have en : (3 * (nn : Int) - 1 + 1) / 3 = nn := by omega
  have ew : len - (3 * (nn : Int) - 1) - 1 = ww := by omega
  rw [en, ew] at o1
  have h17 : ∀ i, 0 ≤ i → i < len → h2 17 i = pg i := fun i a b => by rw [o4 17 i (by decide) (by decide)]; exact (hpg i a b).1
  refine down (P := fun j => ∀ h' : Hp, (∀ c k, c ≠ 33 → c ≠ 34 → h' c k = h2 c k) → (∀ g, 0 ≤ g → g < (j : Int) → h' 33 g = kindz (pg (3 * g)) ∧ h' 34 g = pg (3 * g + 1) - 48) → XJ none 2 kX4_readInto h' 24 [some (.ref 1), some (.ref 2), some (vi (3 * (nn : Int) - 1)), some (vi j)] [] Q) (n := nn) ?_ ?_ h2 (fun c k _ _ => rfl) (fun g a b => by omega)
  · intro h' f1 f2
    have hg' : h' 2 11 = nn := (f1 2 11 (by decide) (by decide)).trans o1.1
    refine xj_iload_n (pc2 := 25) dX4_readInto_24 rfl rfl rfl ?_
    refine xj_aload_n (pc2 := 26) dX4_readInto_25 rfl rfl rfl ?_
    refine xj_getI (pc2 := 29) (kz := 11) fok_X4_59 dX4_readInto_26 rfl rfl rfl (by decide) rfl (by first | assumption | rfl) ?_
    refine xj_cmp_ge (pc2 := 32) (tgt := 82) dX4_readInto_29 rfl rfl (by omega) (by omega) (fun c_29 => ?_) (fun c_29 => by exfalso; omega)
    refine xj_iconst (pc2 := 83) dX4_readInto_82 rfl ?_
    refine xj_istore3 (pc2 := 84) dX4_readInto_83 rfl rfl (by decide) rfl ?_
    refine down (P := fun j => ∀ h3 : Hp, (∀ c k, c ≠ 38 → h3 c k = h' c k) → (∀ g, 0 ≤ g → g < (j : Int) → h3 38 g = pg (3 * nn + g) - 48) → XJ none 2 kX4_readInto h3 84 [some (.ref 1), some (.ref 2), some (vi (3 * (nn : Int) - 1)), some (vi j)] [] Q) (n := ww) ?_ ?_ h' (fun c k _ => rfl) (fun g a b => by omega)
    · intro h3 f3 f4
      have hw' : h3 2 12 = ww := ((f3 2 12 (by decide)).trans (f1 2 12 (by decide) (by decide))).trans o1.2.1
      refine xj_iload_n (pc2 := 85) dX4_readInto_84 rfl rfl rfl ?_
      refine xj_aload_n (pc2 := 86) dX4_readInto_85 rfl rfl rfl ?_
      refine xj_getI (pc2 := 89) (kz := 12) fok_X4_68 dX4_readInto_86 rfl rfl rfl (by decide) rfl (by first | assumption | rfl) ?_
      refine xj_cmp_ge (pc2 := 92) (tgt := 121) dX4_readInto_89 rfl rfl (by omega) (by omega) (fun c_89 => ?_) (fun c_89 => by exfalso; omega)
      refine xj_vret dX4_readInto_121 rfl ?_
      refine hq h3 ⟨⟨?_, hw', ?_, ?_⟩, fun g a b => ?_, fun k a b => ?_, fun i a b => ?_⟩ (fun c k hc hi => ?_)
      · exact (f3 2 11 (by decide)).trans hg'
      · exact ((f3 2 13 (by decide)).trans (f1 2 13 (by decide) (by decide))).trans o1.2.2.1
      · exact ((f3 2 14 (by decide)).trans (f1 2 14 (by decide) (by decide))).trans o1.2.2.2
      · have b2 : g < nn := b
        have g6 : g < 6 := by omega
        obtain ⟨p1, p2⟩ := f2 g a b2
        obtain ⟨p3, p4, p5⟩ := o2 g a g6
        exact ⟨(f3 33 g (by decide)).trans p1, (f3 34 g (by decide)).trans p2, ((f3 35 g (by decide)).trans (f1 35 g (by decide) (by decide))).trans p3, ((f3 36 g (by decide)).trans (f1 36 g (by decide) (by decide))).trans p4, ((f3 37 g (by decide)).trans (f1 37 g (by decide) (by decide))).trans p5⟩
      · have b2 : k < ww := b
        exact ⟨f4 k a b2, ((f3 39 k (by decide)).trans (f1 39 k (by decide) (by decide))).trans (o3 k a (by omega))⟩
      · exfalso
        have b2 : i < 0 := b
        omega
      · rw [f3 c k (hi 5 (by decide)), f1 c k (hi 0 (by decide)) (hi 1 (by decide)), o4 c k hc hi]
    · intro j hj ih h3 f3 f4
      have hw' : h3 2 12 = ww := ((f3 2 12 (by decide)).trans (f1 2 12 (by decide) (by decide))).trans o1.2.1
      have a1 : h3 17 (3 * (nn : Int) - 1 + 1 + j) = pg (3 * nn + j) := by rw [f3 _ _ (by decide), f1 _ _ (by decide) (by decide), show 3 * (nn : Int) - 1 + 1 + j = 3 * nn + j by omega]; exact h17 _ (by omega) (by omega)
      refine xj_iload_n (pc2 := 85) dX4_readInto_84 rfl rfl rfl ?_
      refine xj_aload_n (pc2 := 86) dX4_readInto_85 rfl rfl rfl ?_
      refine xj_getI (pc2 := 89) (kz := 12) fok_X4_68 dX4_readInto_86 rfl rfl rfl (by decide) rfl (by first | assumption | rfl) ?_
      refine xj_cmp_ge (pc2 := 92) (tgt := 121) dX4_readInto_89 rfl rfl (by omega) (by omega) (fun c_89 => by exfalso; omega) (fun c_89 => ?_)
      refine xj_aload_n (pc2 := 93) dX4_readInto_92 rfl rfl rfl ?_
      refine xj_getRn (pc2 := 96) (c2 := 38) fok_X4_71 dX4_readInto_93 rfl rfl rfl rfl rfl ?_
      refine xj_iload_n (pc2 := 97) dX4_readInto_96 rfl rfl rfl ?_
      refine xj_aload_n (pc2 := 98) dX4_readInto_97 rfl rfl rfl ?_
      refine xj_getRn (pc2 := 101) (c2 := 17) fok_X4_9 dX4_readInto_98 rfl rfl rfl rfl rfl ?_
      refine xj_iload_n (pc2 := 102) dX4_readInto_101 rfl rfl rfl ?_
      refine xj_iconst (pc2 := 103) dX4_readInto_102 rfl ?_
      refine xj_iadd (pc2 := 104) dX4_readInto_103 rfl ?_
      refine xj_iload_n (pc2 := 105) dX4_readInto_104 rfl rfl rfl ?_
      refine xj_iadd (pc2 := 106) dX4_readInto_105 rfl ?_
      refine xj_N2I (pc2 := 109) (d2 := 0) mok_X6_at mn_X4_23 sta_yX6_at dX4_readInto_106 rfl rfl (by decide) (by decide) (Nat.le_of_ble_eq_true rfl) (fun _ => rfl) ?_
      refine c_X6_at rfl (by omega) (by decide) a1 ?_
      refine xj_bipush (pc2 := 111) dX4_readInto_109 rfl (by decide) ?_
      refine xj_isub (pc2 := 112) dX4_readInto_111 rfl ?_
      refine xj_N3V (pc2 := 115) (d2 := 0) mok_X6_put mn_X4_19 sta_yX6_put dX4_readInto_112 rfl rfl (by decide) (by decide) (Nat.le_of_ble_eq_true rfl) (fun _ => rfl) ?_
      refine c_X6_put rfl (by omega) (by decide) ?_
      refine xj_iinc3 (pc2 := 118) dX4_readInto_115 rfl (by decide) rfl ?_
      refine xj_goto (tgt := 84) dX4_readInto_118 rfl ?_
      exact ih _ (fun c k hc => (hset_nc hc).trans (f3 c k hc)) (fun g a b => by
        by_cases e : g = (j : Int)
        · subst e; exact hset_eq _ _ _ _
        · rw [hset_nk e]; exact f4 g a (by omega))
  · intro j hj ih h' f1 f2
    have hg' : h' 2 11 = nn := (f1 2 11 (by decide) (by decide)).trans o1.1
    have a1 : h' 17 (3 * (j : Int)) = pg (3 * j) := by rw [f1 _ _ (by decide) (by decide)]; exact h17 _ (by omega) (by omega)
    have a2 : ∀ v, hset h' 33 j v 17 (3 * (j : Int) + 1) = pg (3 * j + 1) := fun v => by rw [hset_nc (by decide), f1 _ _ (by decide) (by decide)]; exact h17 _ (by omega) (by omega)
    have pr := (hpg (3 * j) (by omega) (by omega)).2
    refine xj_iload_n (pc2 := 25) dX4_readInto_24 rfl rfl rfl ?_
    refine xj_aload_n (pc2 := 26) dX4_readInto_25 rfl rfl rfl ?_
    refine xj_getI (pc2 := 29) (kz := 11) fok_X4_59 dX4_readInto_26 rfl rfl rfl (by decide) rfl (by first | assumption | rfl) ?_
    refine xj_cmp_ge (pc2 := 32) (tgt := 82) dX4_readInto_29 rfl rfl (by omega) (by omega) (fun c_29 => by exfalso; omega) (fun c_29 => ?_)
    refine xj_aload_n (pc2 := 33) dX4_readInto_32 rfl rfl rfl ?_
    refine xj_getRn (pc2 := 36) (c2 := 33) fok_X4_62 dX4_readInto_33 rfl rfl rfl rfl rfl ?_
    refine xj_iload_n (pc2 := 37) dX4_readInto_36 rfl rfl rfl ?_
    refine xj_aload_n (pc2 := 38) dX4_readInto_37 rfl rfl rfl ?_
    refine xj_getRn (pc2 := 41) (c2 := 17) fok_X4_9 dX4_readInto_38 rfl rfl rfl rfl rfl ?_
    refine xj_iconst (pc2 := 42) dX4_readInto_41 rfl ?_
    refine xj_iload_n (pc2 := 43) dX4_readInto_42 rfl rfl rfl ?_
    refine xj_imul (pc2 := 44) dX4_readInto_43 rfl ?_
    refine xj_N2I (pc2 := 47) (d2 := 0) mok_X6_at mn_X4_23 sta_yX6_at dX4_readInto_44 rfl rfl (by decide) (by decide) (Nat.le_of_ble_eq_true rfl) (fun _ => rfl) ?_
    refine c_X6_at rfl (by omega) (by decide) a1 ?_
    refine xj_N1I (pc2 := 50) (d2 := 0) mok_X6_kindOf mn_X4_41 sta_yX6_kindOf dX4_readInto_47 rfl rfl (by decide) (by decide) (Nat.le_of_ble_eq_true rfl) (fun _ => rfl) ?_
    refine c_X6_kindOf (by omega) ?_
    refine xj_N3V (pc2 := 53) (d2 := 0) mok_X6_put mn_X4_19 sta_yX6_put dX4_readInto_50 rfl rfl (by decide) (by decide) (Nat.le_of_ble_eq_true rfl) (fun _ => rfl) ?_
    refine c_X6_put rfl (by omega) (by decide) ?_
    refine xj_aload_n (pc2 := 54) dX4_readInto_53 rfl rfl rfl ?_
    refine xj_getRn (pc2 := 57) (c2 := 34) fok_X4_65 dX4_readInto_54 rfl rfl rfl rfl rfl ?_
    refine xj_iload_n (pc2 := 58) dX4_readInto_57 rfl rfl rfl ?_
    refine xj_aload_n (pc2 := 59) dX4_readInto_58 rfl rfl rfl ?_
    refine xj_getRn (pc2 := 62) (c2 := 17) fok_X4_9 dX4_readInto_59 rfl rfl rfl rfl rfl ?_
    refine xj_iconst (pc2 := 63) dX4_readInto_62 rfl ?_
    refine xj_iload_n (pc2 := 64) dX4_readInto_63 rfl rfl rfl ?_
    refine xj_imul (pc2 := 65) dX4_readInto_64 rfl ?_
    refine xj_iconst (pc2 := 66) dX4_readInto_65 rfl ?_
    refine xj_iadd (pc2 := 67) dX4_readInto_66 rfl ?_
    refine xj_N2I (pc2 := 70) (d2 := 0) mok_X6_at mn_X4_23 sta_yX6_at dX4_readInto_67 rfl rfl (by decide) (by decide) (Nat.le_of_ble_eq_true rfl) (fun _ => rfl) ?_
    refine c_X6_at rfl (by omega) (by decide) (a2 _) ?_
    refine xj_bipush (pc2 := 72) dX4_readInto_70 rfl (by decide) ?_
    refine xj_isub (pc2 := 73) dX4_readInto_72 rfl ?_
    refine xj_N3V (pc2 := 76) (d2 := 0) mok_X6_put mn_X4_19 sta_yX6_put dX4_readInto_73 rfl rfl (by decide) (by decide) (Nat.le_of_ble_eq_true rfl) (fun _ => rfl) ?_
    refine c_X6_put rfl (by omega) (by decide) ?_
    refine xj_iinc3 (pc2 := 79) dX4_readInto_76 rfl (by decide) rfl ?_
    refine xj_goto (tgt := 24) dX4_readInto_79 rfl ?_
    exact ih _ (fun c k hc hc2 => ((hset_nc hc2).trans (hset_nc hc)).trans (f1 c k hc hc2)) (fun g a b => by
      by_cases e : g = (j : Int)
      · subst e; exact ⟨by rw [hset_nc (by decide), hset_eq], hset_eq _ _ _ _⟩
      · rw [hset_nk e, hset_nk e, hset_nk e]; exact f2 g a (by omega))
