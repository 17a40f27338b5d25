/-! the model: the page is read -/
def PG (len : Int) (pg : Int → Int) (h : Hp) : Prop := h 9 15 = len ∧ (0 ≤ len ∧ len ≤ 26) ∧ ∀ i, 0 ≤ i → i < len → h 161 i = pg i ∧ 32 ≤ pg i ∧ pg i ≤ 126
def aZ (len : Int) (pg : Int → Int) (k : Int) : Int := if k < len then pg k else 0
theorem aZ_rg {len k : Int} {pg : Int → Int} {h : Hp} (hP : PG len pg h) (hk : 0 ≤ k) : 0 ≤ aZ len pg k ∧ aZ len pg k ≤ 126 := by
  unfold aZ
  split
  · have := hP.2.2 k hk (by assumption); omega
  · decide
theorem aZ_in {len k : Int} {pg : Int → Int} (h : k < len) : aZ len pg k = pg k := if_pos h
theorem aZ_out {len k : Int} {pg : Int → Int} (h : ¬ k < len) : aZ len pg k = 0 := if_neg h
theorem c_X7_at {len k : Int} {pg : Int → Int} {h : Hp} {Q : Int → Hp → Prop} (hP : PG len pg h) (hk : 0 ≤ k ∧ k ≤ 30) (hq : Q (aZ len pg k) h) : CJ 0 kX7_at [.ref 9, vi k] h Q := by
  obtain ⟨hl, hlr, hpg⟩ := id hP
  unfold aZ at hq
  refine cj_of (lo := [some (.ref 9), some (vi k)]) mok_X7_at (fun _ => rfl) (fun _ => Nat.le_of_ble_eq_true rfl) ?_
  refine xj_iload_n (pc2 := 1) dX7_at_0 rfl rfl rfl ?_
  refine xj_aload_n (pc2 := 2) dX7_at_1 rfl rfl rfl ?_
  refine xj_getI (pc2 := 5) (kz := 15) fok_X7_81 dX7_at_2 rfl rfl rfl (by decide) rfl (by first | assumption | rfl) ?_
  refine xj_cmp_ge (pc2 := 8) (tgt := 17) dX7_at_5 rfl rfl (by omega) (by omega) (fun c_5 => ?_) (fun c_5 => ?_)
  · -- 17
    refine xj_iconst (pc2 := 18) dX7_at_17 rfl ?_
    refine xj_iret dX7_at_18 rfl ?_
    first
    | (rw [if_pos (by omega)] at hq; exact hq)
    | (rw [if_neg (by omega)] at hq; exact hq)
  · -- 8
    refine xj_aload_n (pc2 := 9) dX7_at_8 rfl rfl rfl ?_
    refine xj_getRn (pc2 := 12) (c2 := 161) fok_X7_37 dX7_at_9 rfl rfl rfl rfl rfl ?_
    refine xj_iload_n (pc2 := 13) dX7_at_12 rfl rfl rfl ?_
    refine xj_bald (pc2 := 14) dX7_at_13 rfl rfl (by omega) (by omega) ((hpg k hk.1 (by omega)).1) ?_
    refine xj_goto (tgt := 18) dX7_at_14 rfl ?_
    refine xj_iret dX7_at_18 rfl ?_
    first
    | (rw [if_pos (by omega)] at hq; exact hq)
    | (rw [if_neg (by omega)] at hq; exact hq)
theorem c_X7_isFigure {len k : Int} {pg : Int → Int} {h : Hp} {Q : Int → Hp → Prop} (hP : PG len pg h) (hk : 0 ≤ k ∧ k ≤ 30) (h1 : 48 ≤ aZ len pg k ∧ aZ len pg k ≤ 57 → Q 1 h) (h0 : ¬ (48 ≤ aZ len pg k ∧ aZ len pg k ≤ 57) → Q 0 h) : CJ 1 kX7_isFigure [.ref 9, vi k] h Q := by
  have hr := aZ_rg hP hk.1
  refine cj_of (lo := [some (.ref 9), some (vi k)]) mok_X7_isFigure (fun _ => rfl) (fun _ => Nat.le_of_ble_eq_true rfl) ?_
  refine xj_aload_n (pc2 := 1) dX7_isFigure_0 rfl rfl rfl ?_
  refine xj_iload_n (pc2 := 2) dX7_isFigure_1 rfl rfl rfl ?_
  refine xj_V1I (pc2 := 5) (d2 := 0) mok_X7_at ml_X7_85 ima_yX7_at sel_yX7_at rfl rfl dX7_isFigure_2 rfl rfl (by decide) (by decide) (Nat.le_of_ble_eq_true rfl) (fun _ => rfl) ?_
  refine c_X7_at hP (by omega) ?_
  refine xj_bipush (pc2 := 7) dX7_isFigure_5 rfl (by decide) ?_
  refine xj_isub (pc2 := 8) dX7_isFigure_7 rfl ?_
  refine xj_iconst (pc2 := 9) dX7_isFigure_8 rfl ?_
  refine xj_bipush (pc2 := 11) dX7_isFigure_9 rfl (by decide) ?_
  refine xj_S3I (pc2 := 14) (d2 := 0) mok_X7_within ml_X7_77 sta_yX7_within dX7_isFigure_11 rfl rfl (by decide) (by decide) (Nat.le_of_ble_eq_true rfl) (fun _ => rfl) ?_
  refine c_X7_within (by omega) (by omega) (by omega) ?_ ?_
  · -- X7_within = 1
    intro c_11
    refine xj_zret dX7_isFigure_14 rfl (by decide) ?_
    first | exact h1 (by omega) | exact h0 (by omega)
  · -- X7_within = 0
    intro c_11
    refine xj_zret dX7_isFigure_14 rfl (by decide) ?_
    first | exact h1 (by omega) | exact h0 (by omega)
def PRE (pg : Int → Int) (n : Int) : Prop := ∀ i : Nat, (i : Int) < n → pg i ≠ 59 ∧ ofGP (pg i) i
theorem pre_sem {len n : Int} {pg : Int → Int} (h0 : 0 ≤ len) (h : PRE pg n) : semZ len pg = -1 ∨ n ≤ semZ len pg := by
  have hr := sem_rg len h0 pg
  by_cases e : semZ len pg = -1
  · exact Or.inl e
  · refine Or.inr ?_
    obtain ⟨s, hs⟩ := Int.eq_ofNat_of_zero_le (show 0 ≤ semZ len pg by omega)
    have hf := fnd_first (p := semP pg) (s := s) len.toNat (by unfold semZ at hs; exact hs)
    have h59 : pg s = 59 := of_decide_eq_true hf.1
    by_cases q : (s : Int) < n
    · exact absurd h59 (h s q).1
    · omega
theorem pre_ok {len n : Int} {pg : Int → Int} (h0 : 0 ≤ len) (h : PRE pg n) (i : Nat) (hi : (i : Int) < n) : okP len pg i := by
  have hs := pre_sem h0 h
  exact ⟨fun q => by exfalso; omega, fun _ => (h i hi).2⟩
theorem pre_end {len : Int} {pg : Int → Int} (h0 : 0 ≤ len) (h : PRE pg len) : fltZ len pg = len ∧ ¬ shopP len pg := by
  refine ⟨flt_no h0 (fun i hi => pre_ok h0 h i hi), fun q => q.1 (sem_no (fun i hi => (h i hi).1))⟩
theorem pre_at {len n : Int} {pg : Int → Int} (hn : 0 ≤ n ∧ n < len) (h : PRE pg n) (hb : ¬ ofGP (pg n) n) : fltZ len pg = n ∧ ¬ shopP len pg := by
  obtain ⟨j, rfl⟩ := Int.eq_ofNat_of_zero_le hn.1
  have hs := pre_sem (len := len) (by omega) h
  have e : fltZ len pg = (j : Int) := flt_at hn.2 (fun i hi => pre_ok (by omega) h i (by omega)) (fun q => hb (q.2 (fun z => by omega)))
  exact ⟨e, fun q => by have := q.2.2; omega⟩
theorem pre_snoc {n : Int} {pg : Int → Int} (hn : 0 ≤ n) (h : PRE pg n) (h1 : pg n ≠ 59) (h2 : ofGP (pg n) n) : PRE pg (n + 1) := by
  intro i hi
  by_cases e : (i : Int) = n
  · rw [e]; exact ⟨h1, h2⟩
  · exact h i (by omega)
theorem pre_semi {len n : Int} {pg : Int → Int} (hn : 0 ≤ n ∧ n < len) (h : PRE pg n) (h1 : pg n = 59) (h2 : ofGP (pg n) n) : semZ len pg = n ∧ ∀ i : Nat, (i : Int) ≤ n → okP len pg i := by
  obtain ⟨j, rfl⟩ := Int.eq_ofNat_of_zero_le hn.1
  have e : semZ len pg = (j : Int) := sem_at hn.2 (fun i hi => (h i (by omega)).1) h1
  refine ⟨e, fun i hi => ?_⟩
  by_cases q : i = j
  · subst q
    exact ⟨fun z => by exfalso; omega, fun _ => h2⟩
  · exact pre_ok (by omega) h i (by omega)
theorem rw_stop {len n m : Int} {pg : Int → Int} (hn : 0 ≤ n ∧ n < len) (hs : semZ len pg = n) (hok : ∀ i : Nat, (i : Int) ≤ n → okP len pg i) (hm : 0 ≤ m ∧ m ≤ 3) (hd : ∀ i : Nat, n < i → (i : Int) < n + 1 + m → 48 ≤ pg i ∧ pg i ≤ 57) (hl : n + 1 + m ≤ len) (hst : m = 3 ∨ ¬ (48 ≤ aZ len pg (n + 1 + m) ∧ aZ len pg (n + 1 + m) ≤ 57)) : fltZ len pg = n + 1 + m := by
  have hall : ∀ i : Nat, (i : Int) < n + 1 + m → okP len pg i := by
    intro i hi
    by_cases q : (i : Int) ≤ n
    · exact hok i q
    · refine ⟨fun _ => ⟨hd i (by omega) hi, by omega⟩, fun z => absurd ⟨by omega, by omega⟩ z⟩
  by_cases e : n + 1 + m = len
  · rw [e]
    exact flt_no (by omega) (fun i hi => hall i (by omega))
  · obtain ⟨j, hj⟩ := Int.eq_ofNat_of_zero_le (show 0 ≤ n + 1 + m by omega)
    rw [hj]
    rw [hj] at hst hall
    refine flt_at (by omega) (fun i hi => hall i (by omega)) (fun q => ?_)
    have q1 := q.1 ⟨by omega, by omega⟩
    rw [aZ_in (by omega)] at hst
    unfold nervP at q1
    omega
def RF (h h' : Hp) : Prop := ∀ c k, (c ≠ 9 ∨ (k ≠ 17 ∧ k ≠ 18 ∧ k ≠ 19)) → h' c k = h c k
theorem RF_rf {h : Hp} : RF h h := fun _ _ _ => rfl
theorem RF_set {h h' : Hp} {k v : Int} (f : RF h h') (hk : k = 17 ∨ k = 18 ∨ k = 19) : RF h (hset h' 9 k v) := fun c' k' q => by
  rw [show hset h' 9 k v c' k' = h' c' k' from if_neg (by omega)]
  exact f c' k' q
theorem PG_RF {len : Int} {pg : Int → Int} {h h' : Hp} (hP : PG len pg h) (f : RF h h') : PG len pg h' := ⟨(f 9 15 (by decide)).trans hP.1, hP.2.1, fun i a b => by rw [f 161 i (Or.inl (by decide))]; exact hP.2.2 i a b⟩
def RQ (len : Int) (pg : Int → Int) (h h' : Hp) : Prop := RF h h' ∧ (0 ≤ h' 9 17 ∧ h' 9 17 ≤ 1) ∧ (h' 9 17 = 1 → shopP len pg ∧ h' 9 18 = nwG len pg ∧ h' 9 19 = nwW len pg) ∧ (h' 9 17 = 0 → ¬ shopP len pg)
theorem c_X7_readWearers {len n g : Int} {pg : Int → Int} {h0 h : Hp} {Q : Int → Hp → Prop} (hP : PG len pg h) (hf0 : RF h0 h) (h19 : h 9 19 = 0) (h18 : h 9 18 = g) (hng : n + 1 = 3 * g) (hn : 0 ≤ n ∧ n < len) (hs : semZ len pg = n) (hok : ∀ i : Nat, (i : Int) ≤ n → okP len pg i) (hq : ∀ h', RQ len pg h0 h' → Q (fltZ len pg) h') : CJ 2 kX7_readWearers [.ref 9, vi (n + 1)] h Q := by
  obtain ⟨hl, hlr, hpg⟩ := id hP
  have fin : ∀ (m : Int) (h' : Hp), PG len pg h' → RF h0 h' → h' 9 19 = m → h' 9 18 = g → (0 ≤ m ∧ m ≤ 3) → (∀ i : Nat, n < i → (i : Int) < n + 1 + m → 48 ≤ pg i ∧ pg i ≤ 57) → n + 1 + m ≤ len → (m = 3 ∨ ¬ (48 ≤ aZ len pg (n + 1 + m) ∧ aZ len pg (n + 1 + m) ≤ 57)) → XJ none 2 kX7_readWearers h' 34 [some (.ref 9), some (vi (n + 1)), some (vi (n + 1 + m))] [] Q := by
    intro m h' hP' hf h19' h18' hm hd hle hst
    have e := rw_stop hn hs hok hm hd hle hst
    have hl' := hP'.1
    have f1 : 0 < m → n + 1 + m = len → Q (n + 1 + m) (hset h' 9 17 1) := fun q1 q2 => by
      rw [← e]
      refine hq _ ⟨RF_set hf (Or.inl rfl), by rw [hset_eq]; decide, fun _ => ⟨⟨by omega, by omega, by omega⟩, ?_, ?_⟩, fun q => by rw [hset_eq] at q; exact absurd q (by decide)⟩
      · rw [hset_nk (by decide), h18']; unfold nwG; omega
      · rw [hset_nk (by decide), h19']; unfold nwW; omega
    have f0 : ¬ (0 < m ∧ n + 1 + m = len) → Q (n + 1 + m) (hset h' 9 17 0) := fun q1 => by
      rw [← e]
      refine hq _ ⟨RF_set hf (Or.inl rfl), by rw [hset_eq]; decide, fun q => by rw [hset_eq] at q; exact absurd q (by decide), fun _ q => ?_⟩
      have z2 := q.2.1
      have z3 := q.2.2
      omega
    refine xj_aload_n (pc2 := 35) dX7_readWearers_34 rfl rfl rfl ?_
    refine xj_aload_n (pc2 := 36) dX7_readWearers_35 rfl rfl rfl ?_
    refine xj_getI (pc2 := 39) (kz := 19) fok_X7_89 dX7_readWearers_36 rfl rfl rfl (by decide) rfl (by first | assumption | rfl) ?_
    refine xj_if_le (pc2 := 42) (tgt := 54) dX7_readWearers_39 rfl rfl (by omega) (fun c_39 => ?_) (fun c_39 => ?_)
    · -- 54
      refine xj_iconst (pc2 := 55) dX7_readWearers_54 rfl ?_
      refine xj_putZ (pc2 := 58) (kz := 17) fok_X7_96 dX7_readWearers_55 rfl rfl rfl rfl rfl (by omega) ?_
      refine xj_iload_n (pc2 := 59) dX7_readWearers_58 rfl rfl rfl ?_
      refine xj_iret dX7_readWearers_59 rfl ?_
      first | exact f1 (by omega) (by omega) | exact f0 (by omega)
    · -- 42
      refine xj_iload_n (pc2 := 43) dX7_readWearers_42 rfl rfl rfl ?_
      refine xj_aload_n (pc2 := 44) dX7_readWearers_43 rfl rfl rfl ?_
      refine xj_getI (pc2 := 47) (kz := 15) fok_X7_81 dX7_readWearers_44 rfl rfl rfl (by decide) rfl (by first | assumption | rfl) ?_
      refine xj_cmp_ne (pc2 := 50) (tgt := 54) dX7_readWearers_47 rfl rfl (by omega) (by omega) (fun c_47 => ?_) (fun c_47 => ?_)
      · -- 54
        refine xj_iconst (pc2 := 55) dX7_readWearers_54 rfl ?_
        refine xj_putZ (pc2 := 58) (kz := 17) fok_X7_96 dX7_readWearers_55 rfl rfl rfl rfl rfl (by omega) ?_
        refine xj_iload_n (pc2 := 59) dX7_readWearers_58 rfl rfl rfl ?_
        refine xj_iret dX7_readWearers_59 rfl ?_
        first | exact f1 (by omega) (by omega) | exact f0 (by omega)
      · -- 50
        refine xj_iconst (pc2 := 51) dX7_readWearers_50 rfl ?_
        refine xj_goto (tgt := 55) dX7_readWearers_51 rfl ?_
        refine xj_putZ (pc2 := 58) (kz := 17) fok_X7_96 dX7_readWearers_55 rfl rfl rfl rfl rfl (by omega) ?_
        refine xj_iload_n (pc2 := 59) dX7_readWearers_58 rfl rfl rfl ?_
        refine xj_iret dX7_readWearers_59 rfl ?_
        first | exact f1 (by omega) (by omega) | exact f0 (by omega)
  refine cj_of (lo := [some (.ref 9), some (vi (n + 1)), none]) mok_X7_readWearers (fun _ => rfl) (fun _ => Nat.le_of_ble_eq_true rfl) ?_
  refine xj_iload_n (pc2 := 1) dX7_readWearers_0 rfl rfl rfl ?_
  refine xj_istore2 (pc2 := 2) dX7_readWearers_1 rfl rfl (by decide) rfl ?_
  refine down (P := fun j => ∀ (h' : Hp) (k : Int), k = n + 1 + j → PG len pg h' → RF h0 h' → h' 9 19 = j → h' 9 18 = g → (∀ i : Nat, n < i → (i : Int) < n + 1 + j → 48 ≤ pg i ∧ pg i ≤ 57) → n + 1 + j ≤ len → XJ none 2 kX7_readWearers h' 2 [some (.ref 9), some (vi (n + 1)), some (vi k)] [] Q) (n := 3) ?_ ?_ h _ (by omega) hP hf0 h19 h18 (fun i q1 q2 => by exfalso; omega) (by omega)
  · intro h' k hk hP hf h19 h18 hd hle
    subst hk
    refine xj_aload_n (pc2 := 3) dX7_readWearers_2 rfl rfl rfl ?_
    refine xj_getI (pc2 := 6) (kz := 19) fok_X7_89 dX7_readWearers_3 rfl rfl rfl (by decide) rfl (by first | assumption | rfl) ?_
    refine xj_iconst (pc2 := 7) dX7_readWearers_6 rfl ?_
    refine xj_cmp_ge (pc2 := 10) (tgt := 34) dX7_readWearers_7 rfl rfl (by omega) (by omega) (fun c_7 => ?_) (fun c_7 => by exfalso; omega)
    exact fin _ _ hP hf h19 h18 (by omega) hd hle (Or.inl rfl)
  · intro j hj ih h' k hk hP hf h19 h18 hd hle
    subst hk
    refine xj_aload_n (pc2 := 3) dX7_readWearers_2 rfl rfl rfl ?_
    refine xj_getI (pc2 := 6) (kz := 19) fok_X7_89 dX7_readWearers_3 rfl rfl rfl (by decide) rfl (by first | assumption | rfl) ?_
    refine xj_iconst (pc2 := 7) dX7_readWearers_6 rfl ?_
    refine xj_cmp_ge (pc2 := 10) (tgt := 34) dX7_readWearers_7 rfl rfl (by omega) (by omega) (fun c_7 => by exfalso; omega) (fun c_7 => ?_)
    refine xj_aload_n (pc2 := 11) dX7_readWearers_10 rfl rfl rfl ?_
    refine xj_iload_n (pc2 := 12) dX7_readWearers_11 rfl rfl rfl ?_
    refine xj_V1I (pc2 := 15) (d2 := 1) mok_X7_isFigure ml_X7_92 ima_yX7_isFigure sel_yX7_isFigure rfl rfl dX7_readWearers_12 rfl rfl (by decide) (by decide) (Nat.le_of_ble_eq_true rfl) (fun _ => rfl) ?_
    refine c_X7_isFigure hP (by omega) ?_ ?_
    · -- X7_isFigure = 1
      intro c_12
      refine xj_if_eq (pc2 := 18) (tgt := 34) dX7_readWearers_15 rfl rfl (by omega) (fun c_15 => absurd c_15 (by decide)) (fun c_15 => ?_)
      refine xj_aload_n (pc2 := 19) dX7_readWearers_18 rfl rfl rfl ?_
      refine xj_dup (pc2 := 20) dX7_readWearers_19 rfl rfl ?_
      refine xj_getI (pc2 := 23) (kz := 19) fok_X7_89 dX7_readWearers_20 rfl rfl rfl (by decide) rfl (by first | assumption | rfl) ?_
      refine xj_iconst (pc2 := 24) dX7_readWearers_23 rfl ?_
      refine xj_iadd (pc2 := 25) dX7_readWearers_24 rfl ?_
      refine xj_putI (pc2 := 28) (kz := 19) fok_X7_89 dX7_readWearers_25 rfl rfl rfl rfl rfl ?_
      refine xj_iinc2 (pc2 := 31) dX7_readWearers_28 rfl (by decide) rfl ?_
      refine xj_goto (tgt := 2) dX7_readWearers_31 rfl ?_
      have hin : n + 1 + j < len := by
        by_cases q : n + 1 + (j : Int) < len
        · exact q
        · rw [aZ_out q] at c_12; exfalso; omega
      rw [aZ_in hin] at c_12
      refine ih _ _ (by omega) (PG_RF hP (RF_set RF_rf (Or.inr (Or.inr rfl)))) (RF_set hf (Or.inr (Or.inr rfl))) (by rw [hset_eq]; omega) ((hset_nk (by decide)).trans h18) (fun i q1 q2 => ?_) (by omega)
      by_cases q : (i : Int) = n + 1 + j
      · rw [q]; exact c_12
      · exact hd i q1 (by omega)
    · -- X7_isFigure = 0
      intro c_12
      refine xj_if_eq (pc2 := 18) (tgt := 34) dX7_readWearers_15 rfl rfl (by omega) (fun c_15 => ?_) (fun c_15 => absurd c_15 (by decide))
      exact fin _ _ hP hf h19 h18 (by omega) hd hle (Or.inr c_12)
theorem c_X7_read {len : Int} {pg : Int → Int} {h : Hp} {Q : Int → Hp → Prop} (hP : PG len pg h) (hq : ∀ h', RQ len pg h h' → Q (fltZ len pg) h') : CJ 3 kX7_read [.ref 9] h Q := by
  have hP0 := hP
  obtain ⟨hl, hlr, hpg⟩ := id hP
  have stop : ∀ (k : Int) (h' : Hp), RF h h' → h' 9 17 = 0 → fltZ len pg = k → ¬ shopP len pg → Q k h' := fun k h' hf h17 e1 e2 => by
    rw [← e1]
    exact hq h' ⟨hf, by rw [h17]; decide, fun q => by rw [h17] at q; exact absurd q (by decide), fun _ => e2⟩
  refine cj_of (lo := [some (.ref 9), none]) mok_X7_read (fun _ => rfl) (fun _ => Nat.le_of_ble_eq_true rfl) ?_
  refine xj_aload_n (pc2 := 1) dX7_read_0 rfl rfl rfl ?_
  refine xj_iconst (pc2 := 2) dX7_read_1 rfl ?_
  refine xj_putZ (pc2 := 5) (kz := 17) fok_X7_96 dX7_read_2 rfl rfl rfl rfl rfl (by omega) ?_
  refine xj_aload_n (pc2 := 6) dX7_read_5 rfl rfl rfl ?_
  refine xj_iconst (pc2 := 7) dX7_read_6 rfl ?_
  refine xj_putI (pc2 := 10) (kz := 18) fok_X7_100 dX7_read_7 rfl rfl rfl rfl rfl ?_
  refine xj_aload_n (pc2 := 11) dX7_read_10 rfl rfl rfl ?_
  refine xj_iconst (pc2 := 12) dX7_read_11 rfl ?_
  refine xj_putI (pc2 := 15) (kz := 19) fok_X7_89 dX7_read_12 rfl rfl rfl rfl rfl ?_
  refine xj_iconst (pc2 := 16) dX7_read_15 rfl ?_
  refine xj_istore1 (pc2 := 17) dX7_read_16 rfl rfl (by decide) rfl ?_
  have step : ∀ (j : Nat) (h' : Hp) (k : Int), j < 6 → k = 3 * j → RF h h' → h' 9 17 = 0 → h' 9 18 = j → h' 9 19 = 0 → PRE pg k → k ≤ len → (∀ (h2 : Hp), j < 5 → RF h h2 → h2 9 17 = 0 → h2 9 18 = ((j + 1 : Nat) : Int) → h2 9 19 = 0 → PRE pg (k + 3) → k + 3 ≤ len → XJ none 3 kX7_read h2 17 [some (.ref 9), some (vi (k + 3))] [] Q) → XJ none 3 kX7_read h' 17 [some (.ref 9), some (vi k)] [] Q := by
    intro j h' k hj hk hf h17 h18 h19 hpre hle ih
    have hP := PG_RF hP0 hf
    have hr0 := aZ_rg hP (k := k) (by omega)
    have hr1 := aZ_rg hP (k := k + 1) (by omega)
    have hr2 := aZ_rg hP (k := k + 2) (by omega)
    have hkr := kindz_rg (aZ len pg k)
    have hf2 : RF h (hset h' 9 18 (j + 1)) := RF_set hf (by decide)
    have g17 : hset h' 9 18 (j + 1) 9 17 = 0 := (hset_nk (by decide)).trans h17
    have g19 : hset h' 9 18 (j + 1) 9 19 = 0 := (hset_nk (by decide)).trans h19
    have g18 : hset h' 9 18 (j + 1) 9 18 = (j : Int) + 1 := hset_eq _ _ _ _
    have hP2 := PG_RF hP0 hf2
    -- a place that isn't of the gloves
    have bad0 : kindz (aZ len pg k) = -1 → fltZ len pg = k ∧ ¬ shopP len pg := fun q => by
      by_cases e : k < len
      · rw [aZ_in e] at q
        exact pre_at ⟨by omega, e⟩ hpre (fun z => by unfold ofGP at z; omega)
      · have : k = len := by omega
        subst this
        exact pre_end (by omega) hpre
    have pre1 : ¬ kindz (aZ len pg k) = -1 → k < len ∧ PRE pg (k + 1) := fun q => by
      have e : k < len := by
        by_cases e : k < len
        · exact e
        · rw [aZ_out e] at q; exact absurd rfl q
      rw [aZ_in e] at q
      refine ⟨e, pre_snoc (by omega) hpre (fun z => q (by rw [z]; rfl)) (Or.inl ⟨by omega, q⟩)⟩
    have bad1 : k < len → PRE pg (k + 1) → ¬ (48 ≤ aZ len pg (k + 1) ∧ aZ len pg (k + 1) ≤ 57) → fltZ len pg = k + 1 ∧ ¬ shopP len pg := fun q0 q1 q => by
      by_cases e : k + 1 < len
      · rw [aZ_in e] at q
        exact pre_at ⟨by omega, e⟩ q1 (fun z => by unfold ofGP at z; omega)
      · have e2 : k + 1 = len := by omega
        rw [e2] at q1 ⊢
        exact pre_end (by omega) q1
    have pre2 : PRE pg (k + 1) → (48 ≤ aZ len pg (k + 1) ∧ aZ len pg (k + 1) ≤ 57) → k + 1 < len ∧ PRE pg (k + 2) := fun q1 q => by
      have e : k + 1 < len := by
        by_cases e : k + 1 < len
        · exact e
        · rw [aZ_out e] at q; exfalso; omega
      rw [aZ_in e] at q
      have := pre_snoc (by omega) q1 (by omega) (Or.inr (Or.inl ⟨by omega, q⟩))
      rw [show k + 1 + 1 = k + 2 by omega] at this
      exact ⟨e, this⟩
    have bad2 : k + 1 < len → PRE pg (k + 2) → ¬ (aZ len pg (k + 2) = 59 ∧ 1 < (j : Int) + 1) → (j + 1 = 6 ∨ ¬ aZ len pg (k + 2) = 44) → fltZ len pg = k + 2 ∧ ¬ shopP len pg := fun q0 q1 q2 q3 => by
      by_cases e : k + 2 < len
      · rw [aZ_in e] at q2 q3
        exact pre_at ⟨by omega, e⟩ q1 (fun z => by unfold ofGP at z; omega)
      · have e2 : k + 2 = len := by omega
        rw [e2] at q1 ⊢
        exact pre_end (by omega) q1
    have pre3 : k + 1 < len → PRE pg (k + 2) → aZ len pg (k + 2) = 44 → j + 1 < 6 → k + 3 ≤ len ∧ PRE pg (k + 3) := fun q0 q1 q q2 => by
      have e : k + 2 < len := by
        by_cases e : k + 2 < len
        · exact e
        · rw [aZ_out e] at q; exfalso; omega
      rw [aZ_in e] at q
      have := pre_snoc (by omega) q1 (by omega) (Or.inr (Or.inr ⟨by omega, Or.inl ⟨q, by omega⟩⟩))
      rw [show k + 2 + 1 = k + 3 by omega] at this
      exact ⟨by omega, this⟩
    have semi : k + 1 < len → PRE pg (k + 2) → aZ len pg (k + 2) = 59 → 1 < (j : Int) + 1 → k + 2 < len ∧ semZ len pg = k + 2 ∧ ∀ i : Nat, (i : Int) ≤ k + 2 → okP len pg i := fun q0 q1 q q2 => by
      have e : k + 2 < len := by
        by_cases e : k + 2 < len
        · exact e
        · rw [aZ_out e] at q; exfalso; omega
      rw [aZ_in e] at q
      exact ⟨e, pre_semi ⟨by omega, e⟩ q1 q (Or.inr (Or.inr ⟨by omega, Or.inr ⟨q, by omega⟩⟩))⟩
    refine xj_aload_n (pc2 := 18) dX7_read_17 rfl rfl rfl ?_
    refine xj_getI (pc2 := 21) (kz := 18) fok_X7_100 dX7_read_18 rfl rfl rfl (by decide) rfl (by first | assumption | rfl) ?_
    refine xj_bipush (pc2 := 23) dX7_read_21 rfl (by decide) ?_
    refine xj_cmp_ge (pc2 := 26) (tgt := 120) dX7_read_23 rfl rfl (by omega) (by omega) (fun c_23 => by exfalso; omega) (fun c_23 => ?_)
    refine xj_aload_n (pc2 := 27) dX7_read_26 rfl rfl rfl ?_
    refine xj_iload_n (pc2 := 28) dX7_read_27 rfl rfl rfl ?_
    refine xj_V1I (pc2 := 31) (d2 := 0) mok_X7_at ml_X7_85 ima_yX7_at sel_yX7_at rfl rfl dX7_read_28 rfl rfl (by decide) (by decide) (Nat.le_of_ble_eq_true rfl) (fun _ => rfl) ?_
    refine c_X7_at hP (by omega) ?_
    refine xj_S1I (pc2 := 34) (d2 := 0) mok_X7_kindBy ml_X7_103 sta_yX7_kindBy dX7_read_31 rfl rfl (by decide) (by decide) (Nat.le_of_ble_eq_true rfl) (fun _ => rfl) ?_
    refine c_X7_kindBy (by omega) ?_
    refine xj_iconst (pc2 := 35) dX7_read_34 rfl ?_
    refine xj_cmp_ne (pc2 := 38) (tgt := 40) dX7_read_35 rfl rfl (by omega) (by omega) (fun c_35 => ?_) (fun c_35 => ?_)
    · -- 40
      refine xj_aload_n (pc2 := 41) dX7_read_40 rfl rfl rfl ?_
      refine xj_iload_n (pc2 := 42) dX7_read_41 rfl rfl rfl ?_
      refine xj_iconst (pc2 := 43) dX7_read_42 rfl ?_
      refine xj_iadd (pc2 := 44) dX7_read_43 rfl ?_
      refine xj_V1I (pc2 := 47) (d2 := 1) mok_X7_isFigure ml_X7_92 ima_yX7_isFigure sel_yX7_isFigure rfl rfl dX7_read_44 rfl rfl (by decide) (by decide) (Nat.le_of_ble_eq_true rfl) (fun _ => rfl) ?_
      refine c_X7_isFigure hP (by omega) ?_ ?_
      · -- X7_isFigure = 1
        intro c_44
        refine xj_if_ne (pc2 := 50) (tgt := 54) dX7_read_47 rfl rfl (by omega) (fun c_47 => ?_) (fun c_47 => absurd c_47 (by decide))
        refine xj_aload_n (pc2 := 55) dX7_read_54 rfl rfl rfl ?_
        refine xj_dup (pc2 := 56) dX7_read_55 rfl rfl ?_
        refine xj_getI (pc2 := 59) (kz := 18) fok_X7_100 dX7_read_56 rfl rfl rfl (by decide) rfl (by first | assumption | rfl) ?_
        refine xj_iconst (pc2 := 60) dX7_read_59 rfl ?_
        refine xj_iadd (pc2 := 61) dX7_read_60 rfl ?_
        refine xj_putI (pc2 := 64) (kz := 18) fok_X7_100 dX7_read_61 rfl rfl rfl rfl rfl ?_
        refine xj_iinc1 (pc2 := 67) dX7_read_64 rfl (by decide) rfl ?_
        refine xj_aload_n (pc2 := 68) dX7_read_67 rfl rfl rfl ?_
        refine xj_iload_n (pc2 := 69) dX7_read_68 rfl rfl rfl ?_
        refine xj_V1I (pc2 := 72) (d2 := 0) mok_X7_at ml_X7_85 ima_yX7_at sel_yX7_at rfl rfl dX7_read_69 rfl rfl (by decide) (by decide) (Nat.le_of_ble_eq_true rfl) (fun _ => rfl) ?_
        refine c_X7_at hP2 (by omega) ?_
        refine xj_bipush (pc2 := 74) dX7_read_72 rfl (by decide) ?_
        refine xj_cmp_ne (pc2 := 77) (tgt := 93) dX7_read_74 rfl rfl (by omega) (by omega) (fun c_74 => ?_) (fun c_74 => ?_)
        · -- 93
          refine xj_aload_n (pc2 := 94) dX7_read_93 rfl rfl rfl ?_
          refine xj_getI (pc2 := 97) (kz := 18) fok_X7_100 dX7_read_94 rfl rfl rfl (by decide) rfl (by first | assumption | rfl) ?_
          refine xj_bipush (pc2 := 99) dX7_read_97 rfl (by decide) ?_
          refine xj_cmp_eq (pc2 := 102) (tgt := 112) dX7_read_99 rfl rfl (by omega) (by omega) (fun c_99 => ?_) (fun c_99 => ?_)
          · -- 112
            refine xj_iload_n (pc2 := 113) dX7_read_112 rfl rfl rfl ?_
            refine xj_iret dX7_read_113 rfl ?_
            obtain ⟨p1, p2⟩ := pre1 (by omega)
            obtain ⟨p3, p4⟩ := pre2 p2 c_44
            obtain ⟨p5, p6⟩ := bad2 p3 p4 (by omega) (by omega)
            exact stop _ _ hf2 g17 p5 p6
          · -- 102
            refine xj_aload_n (pc2 := 103) dX7_read_102 rfl rfl rfl ?_
            refine xj_iload_n (pc2 := 104) dX7_read_103 rfl rfl rfl ?_
            refine xj_V1I (pc2 := 107) (d2 := 0) mok_X7_at ml_X7_85 ima_yX7_at sel_yX7_at rfl rfl dX7_read_104 rfl rfl (by decide) (by decide) (Nat.le_of_ble_eq_true rfl) (fun _ => rfl) ?_
            refine c_X7_at hP2 (by omega) ?_
            refine xj_bipush (pc2 := 109) dX7_read_107 rfl (by decide) ?_
            refine xj_cmp_eq (pc2 := 112) (tgt := 114) dX7_read_109 rfl rfl (by omega) (by omega) (fun c_109 => ?_) (fun c_109 => ?_)
            · -- 114
              refine xj_iinc1 (pc2 := 117) dX7_read_114 rfl (by decide) rfl ?_
              refine xj_goto (tgt := 17) dX7_read_117 rfl ?_
              obtain ⟨p1, p2⟩ := pre1 (by omega)
              obtain ⟨p3, p4⟩ := pre2 p2 c_44
              obtain ⟨p5, p6⟩ := pre3 p3 p4 (by omega) (by omega)
              rw [show k + 2 + 1 = k + 3 by omega]
              exact ih _ (by omega) hf2 g17 (by rw [g18]; omega) g19 p6 p5
            · -- 112
              refine xj_iload_n (pc2 := 113) dX7_read_112 rfl rfl rfl ?_
              refine xj_iret dX7_read_113 rfl ?_
              obtain ⟨p1, p2⟩ := pre1 (by omega)
              obtain ⟨p3, p4⟩ := pre2 p2 c_44
              obtain ⟨p5, p6⟩ := bad2 p3 p4 (by omega) (by omega)
              exact stop _ _ hf2 g17 p5 p6
        · -- 77
          refine xj_aload_n (pc2 := 78) dX7_read_77 rfl rfl rfl ?_
          refine xj_getI (pc2 := 81) (kz := 18) fok_X7_100 dX7_read_78 rfl rfl rfl (by decide) rfl (by first | assumption | rfl) ?_
          refine xj_iconst (pc2 := 82) dX7_read_81 rfl ?_
          refine xj_cmp_le (pc2 := 85) (tgt := 93) dX7_read_82 rfl rfl (by omega) (by omega) (fun c_82 => ?_) (fun c_82 => ?_)
          · -- 93
            refine xj_aload_n (pc2 := 94) dX7_read_93 rfl rfl rfl ?_
            refine xj_getI (pc2 := 97) (kz := 18) fok_X7_100 dX7_read_94 rfl rfl rfl (by decide) rfl (by first | assumption | rfl) ?_
            refine xj_bipush (pc2 := 99) dX7_read_97 rfl (by decide) ?_
            refine xj_cmp_eq (pc2 := 102) (tgt := 112) dX7_read_99 rfl rfl (by omega) (by omega) (fun c_99 => ?_) (fun c_99 => ?_)
            · -- 112
              refine xj_iload_n (pc2 := 113) dX7_read_112 rfl rfl rfl ?_
              refine xj_iret dX7_read_113 rfl ?_
              obtain ⟨p1, p2⟩ := pre1 (by omega)
              obtain ⟨p3, p4⟩ := pre2 p2 c_44
              obtain ⟨p5, p6⟩ := bad2 p3 p4 (by omega) (by omega)
              exact stop _ _ hf2 g17 p5 p6
            · -- 102
              refine xj_aload_n (pc2 := 103) dX7_read_102 rfl rfl rfl ?_
              refine xj_iload_n (pc2 := 104) dX7_read_103 rfl rfl rfl ?_
              refine xj_V1I (pc2 := 107) (d2 := 0) mok_X7_at ml_X7_85 ima_yX7_at sel_yX7_at rfl rfl dX7_read_104 rfl rfl (by decide) (by decide) (Nat.le_of_ble_eq_true rfl) (fun _ => rfl) ?_
              refine c_X7_at hP2 (by omega) ?_
              refine xj_bipush (pc2 := 109) dX7_read_107 rfl (by decide) ?_
              refine xj_cmp_eq (pc2 := 112) (tgt := 114) dX7_read_109 rfl rfl (by omega) (by omega) (fun c_109 => ?_) (fun c_109 => ?_)
              · -- 114
                refine xj_iinc1 (pc2 := 117) dX7_read_114 rfl (by decide) rfl ?_
                refine xj_goto (tgt := 17) dX7_read_117 rfl ?_
                obtain ⟨p1, p2⟩ := pre1 (by omega)
                obtain ⟨p3, p4⟩ := pre2 p2 c_44
                obtain ⟨p5, p6⟩ := pre3 p3 p4 (by omega) (by omega)
                rw [show k + 2 + 1 = k + 3 by omega]
                exact ih _ (by omega) hf2 g17 (by rw [g18]; omega) g19 p6 p5
              · -- 112
                refine xj_iload_n (pc2 := 113) dX7_read_112 rfl rfl rfl ?_
                refine xj_iret dX7_read_113 rfl ?_
                obtain ⟨p1, p2⟩ := pre1 (by omega)
                obtain ⟨p3, p4⟩ := pre2 p2 c_44
                obtain ⟨p5, p6⟩ := bad2 p3 p4 (by omega) (by omega)
                exact stop _ _ hf2 g17 p5 p6
          · -- 85
            refine xj_aload_n (pc2 := 86) dX7_read_85 rfl rfl rfl ?_
            refine xj_iload_n (pc2 := 87) dX7_read_86 rfl rfl rfl ?_
            refine xj_iconst (pc2 := 88) dX7_read_87 rfl ?_
            refine xj_iadd (pc2 := 89) dX7_read_88 rfl ?_
            refine xj_V1I (pc2 := 92) (d2 := 2) mok_X7_readWearers ml_X7_106 ima_yX7_readWearers sel_yX7_readWearers rfl rfl dX7_read_89 rfl rfl (by decide) (by decide) (Nat.le_of_ble_eq_true rfl) (fun _ => rfl) ?_
            obtain ⟨p1, p2⟩ := pre1 (by omega)
            obtain ⟨p3, p4⟩ := pre2 p2 c_44
            obtain ⟨p5, p6, p7⟩ := semi p3 p4 (by omega) (by omega)
            refine c_X7_readWearers (n := k + 2) (g := (j : Int) + 1) hP2 hf2 g19 g18 (by omega) ⟨by omega, p5⟩ p6 p7 ?_
            intro h9 hq9
            refine xj_iret dX7_read_92 rfl ?_
            exact hq _ hq9
      · -- X7_isFigure = 0
        intro c_44
        refine xj_if_ne (pc2 := 50) (tgt := 54) dX7_read_47 rfl rfl (by omega) (fun c_47 => absurd c_47 (by decide)) (fun c_47 => ?_)
        refine xj_iload_n (pc2 := 51) dX7_read_50 rfl rfl rfl ?_
        refine xj_iconst (pc2 := 52) dX7_read_51 rfl ?_
        refine xj_iadd (pc2 := 53) dX7_read_52 rfl ?_
        refine xj_iret dX7_read_53 rfl ?_
        obtain ⟨p1, p2⟩ := pre1 (by omega)
        exact stop _ _ hf h17 (bad1 p1 p2 c_44).1 (bad1 p1 p2 c_44).2
    · -- 38
      refine xj_iload_n (pc2 := 39) dX7_read_38 rfl rfl rfl ?_
      refine xj_iret dX7_read_39 rfl ?_
      exact stop _ _ hf h17 (bad0 (by omega)).1 (bad0 (by omega)).2
  refine down (P := fun j => ∀ (h' : Hp) (k : Int), k = 3 * j → RF h h' → h' 9 17 = 0 → h' 9 18 = j → h' 9 19 = 0 → PRE pg k → k ≤ len → XJ none 3 kX7_read h' 17 [some (.ref 9), some (vi k)] [] Q) (n := 5) ?_ ?_ _ 0 (by omega) (RF_set (RF_set (RF_set RF_rf (by decide)) (by decide)) (by decide)) (by simp [hset]) (by simp [hset]) (by simp [hset]) (fun i hi => by exfalso; omega) (by omega)
  · intro h' k hk hf h17 h18 h19 hpre hle
    exact step 5 h' k (by omega) hk hf h17 h18 h19 hpre hle (fun h2 q => by exfalso; omega)
  · intro j hj ih h' k hk hf h17 h18 h19 hpre hle
    exact step j h' k (by omega) hk hf h17 h18 h19 hpre hle (fun h2 _ q1 q2 q3 q4 q5 q6 => ih h2 (k + 3) (by omega) q1 q2 q3 q4 q5 q6)
