/-! the model: dress -/
def RWr (n : Nat) (r : Rw) (h : Hp) : Prop := ∀ i : Nat, i < n → h 165 i = (r i : Int)
def FR (h h' : Hp) : Prop := ∀ c k, c ≠ 165 → c ≠ 166 → h' c k = h c k
theorem FR_rf {h : Hp} : FR h h := fun _ _ _ _ => rfl
theorem FR_tr {h h2 h3 : Hp} (a : FR h h2) (b : FR h2 h3) : FR h h3 := fun c k h1 h2 => (b c k h1 h2).trans (a c k h1 h2)
theorem RM_FR {S : Sh} {h h' : Hp} (hM : RM S h) (e : FR h h') : RM S h' := RM_eq hM (e _ _ (by decide) (by decide)) (e _ _ (by decide) (by decide)) (e _ _ (by decide) (by decide)) (e _ _ (by decide) (by decide)) (fun c k q => e c k (by omega) (by omega))
theorem RWr_ex {n : Nat} {r : Rw} {h h' : Hp} (hr : RWr n r h) (e : EX h h' 166) : RWr n r h' := fun i hi => by rw [e 165 _ (by decide)]; exact hr i hi
theorem c_X7_begin {h : Hp} {Q : Int → Hp → Prop} (hq : ∀ h', (∀ i : Nat, i < 6 → h' 165 i = 0 ∧ h' 166 i = -1) → FR h h' → Q 0 h') : CJ 0 kX7_begin [.ref 9] h Q := by
  refine cj_of (lo := [some (.ref 9), none]) mok_X7_begin (fun _ => rfl) (fun _ => Nat.le_of_ble_eq_true rfl) ?_
  refine xj_iconst (pc2 := 1) dX7_begin_0 rfl ?_
  refine xj_istore1 (pc2 := 2) dX7_begin_1 rfl rfl (by decide) rfl ?_
  refine down (P := fun j => ∀ h' : Hp, FR h h' → (∀ i : Nat, i < j → h' 165 i = 0 ∧ h' 166 i = -1) → XJ none 0 kX7_begin h' 2 [some (.ref 9), some (vi j)] [] Q) (n := 6) ?_ ?_ h FR_rf (fun i hi => by omega)
  · intro h' hf ha
    refine xj_iload_n (pc2 := 3) dX7_begin_2 rfl rfl rfl ?_
    refine xj_bipush (pc2 := 5) dX7_begin_3 rfl (by decide) ?_
    refine xj_cmp_ge (pc2 := 8) (tgt := 28) dX7_begin_5 rfl rfl (by omega) (by omega) (fun c_5 => ?_) (fun c_5 => by exfalso; omega)
    refine xj_vret dX7_begin_28 rfl ?_
    exact hq _ ha hf
  · intro j hj ih h' hf ha
    refine xj_iload_n (pc2 := 3) dX7_begin_2 rfl rfl rfl ?_
    refine xj_bipush (pc2 := 5) dX7_begin_3 rfl (by decide) ?_
    refine xj_cmp_ge (pc2 := 8) (tgt := 28) dX7_begin_5 rfl rfl (by omega) (by omega) (fun c_5 => by exfalso; omega) (fun c_5 => ?_)
    refine xj_aload_n (pc2 := 9) dX7_begin_8 rfl rfl rfl ?_
    refine xj_getRn (pc2 := 12) (c2 := 165) fok_X7_41 dX7_begin_9 rfl rfl rfl rfl rfl ?_
    refine xj_iload_n (pc2 := 13) dX7_begin_12 rfl rfl rfl ?_
    refine xj_iconst (pc2 := 14) dX7_begin_13 rfl ?_
    refine xj_iast (pc2 := 15) dX7_begin_14 rfl rfl (by omega) (by omega) ?_
    refine xj_aload_n (pc2 := 16) dX7_begin_15 rfl rfl rfl ?_
    refine xj_getRn (pc2 := 19) (c2 := 166) fok_X7_44 dX7_begin_16 rfl rfl rfl rfl rfl ?_
    refine xj_iload_n (pc2 := 20) dX7_begin_19 rfl rfl rfl ?_
    refine xj_iconst (pc2 := 21) dX7_begin_20 rfl ?_
    refine xj_iast (pc2 := 22) dX7_begin_21 rfl rfl (by omega) (by omega) ?_
    refine xj_iinc1 (pc2 := 25) dX7_begin_22 rfl (by decide) rfl ?_
    refine xj_goto (tgt := 2) dX7_begin_25 rfl ?_
    refine ih _ (fun c k q1 q2 => by rw [hset_nc q2, hset_nc q1]; exact hf c k q1 q2) (fun i hi => ?_)
    by_cases e : i = j
    · subst e; simp [hset]
    · have := ha i (by omega)
      rw [hset_nc (by decide), hset_nk (by omega), hset_nk (by omega), hset_nc (by decide)]
      exact this
theorem c_X7_keepRow {S : Sh} {r : Rw} {x : Int} {h : Hp} {Q : Int → Hp → Prop} (hM : RM S h) (hW : WF S) (hr : RWr (nG S) r h) (hb : ∀ i, i < nG S → r i ≤ 6) (hx : 0 ≤ x ∧ x ≤ 1) (hq : ∀ h', (∀ i : Nat, i < nG S → h' 166 i = (r i : Int) - x) → (∀ i : Nat, nG S ≤ i → h' 166 i = h 166 i) → EX h h' 166 → Q 0 h') : CJ 0 kX7_keepRow [.ref 9, vi x] h Q := by
  have hnn := wf_n hW
  have hng := nG_eq hW
  refine cj_of (lo := [some (.ref 9), some (vi x), none]) mok_X7_keepRow (fun _ => rfl) (fun _ => Nat.le_of_ble_eq_true rfl) ?_
  refine xj_iconst (pc2 := 1) dX7_keepRow_0 rfl ?_
  refine xj_istore2 (pc2 := 2) dX7_keepRow_1 rfl rfl (by decide) rfl ?_
  refine down (P := fun j => ∀ h' : Hp, EX h h' 166 → (∀ i : Nat, i < j → h' 166 i = (r i : Int) - x) → (∀ i : Nat, nG S ≤ i → h' 166 i = h 166 i) → XJ none 0 kX7_keepRow h' 2 [some (.ref 9), some (vi x), some (vi j)] [] Q) (n := nG S) ?_ ?_ h EX_rf (fun i hi => by omega) (fun _ _ => rfl)
  · intro h' hf ha hc
    have hn' : h' 9 1 = S 6 0 := (hf 9 1 (by decide)).trans hM.1.1
    refine xj_iload_n (pc2 := 3) dX7_keepRow_2 rfl rfl rfl ?_
    refine xj_aload_n (pc2 := 4) dX7_keepRow_3 rfl rfl rfl ?_
    refine xj_getI (pc2 := 7) (kz := 1) fok_X7_113 dX7_keepRow_4 rfl rfl rfl (by decide) rfl (by first | assumption | rfl) ?_
    refine xj_cmp_ge (pc2 := 10) (tgt := 30) dX7_keepRow_7 rfl rfl (by omega) (by omega) (fun c_7 => ?_) (fun c_7 => by exfalso; omega)
    refine xj_vret dX7_keepRow_30 rfl ?_
    exact hq _ ha hc hf
  · intro j hj ih h' hf ha hc
    have hn' : h' 9 1 = S 6 0 := (hf 9 1 (by decide)).trans hM.1.1
    have hrj : h' 165 (j : Int) = (r j : Int) := (hf 165 _ (by decide)).trans (hr j hj)
    have hbj := hb j hj
    refine xj_iload_n (pc2 := 3) dX7_keepRow_2 rfl rfl rfl ?_
    refine xj_aload_n (pc2 := 4) dX7_keepRow_3 rfl rfl rfl ?_
    refine xj_getI (pc2 := 7) (kz := 1) fok_X7_113 dX7_keepRow_4 rfl rfl rfl (by decide) rfl (by first | assumption | rfl) ?_
    refine xj_cmp_ge (pc2 := 10) (tgt := 30) dX7_keepRow_7 rfl rfl (by omega) (by omega) (fun c_7 => by exfalso; omega) (fun c_7 => ?_)
    refine xj_aload_n (pc2 := 11) dX7_keepRow_10 rfl rfl rfl ?_
    refine xj_getRn (pc2 := 14) (c2 := 166) fok_X7_44 dX7_keepRow_11 rfl rfl rfl rfl rfl ?_
    refine xj_iload_n (pc2 := 15) dX7_keepRow_14 rfl rfl rfl ?_
    refine xj_aload_n (pc2 := 16) dX7_keepRow_15 rfl rfl rfl ?_
    refine xj_getRn (pc2 := 19) (c2 := 165) fok_X7_41 dX7_keepRow_16 rfl rfl rfl rfl rfl ?_
    refine xj_iload_n (pc2 := 20) dX7_keepRow_19 rfl rfl rfl ?_
    refine xj_iald (pc2 := 21) dX7_keepRow_20 rfl rfl (by omega) (by omega) hrj ?_
    refine xj_iload_n (pc2 := 22) dX7_keepRow_21 rfl rfl rfl ?_
    refine xj_isub (pc2 := 23) dX7_keepRow_22 rfl ?_
    refine xj_iast (pc2 := 24) dX7_keepRow_23 rfl rfl (by omega) (by omega) ?_
    refine xj_iinc2 (pc2 := 27) dX7_keepRow_24 rfl (by decide) rfl ?_
    refine xj_goto (tgt := 2) dX7_keepRow_27 rfl ?_
    refine ih _ (fun c k q => by rw [hset_nc q]; exact hf c k q) (fun i hi => ?_) (fun i hi => by rw [hset_nk (by omega)]; exact hc i hi)
    by_cases e : i = j
    · subst e; rw [hset_eq]
    · rw [hset_nk (by omega)]
      exact ha i (by omega)
theorem c_X7_givenTo {S : Sh} {r : Rw} {w : Nat} {h : Hp} {Q : Int → Hp → Prop} (hM : RM S h) (hW : WF S) (hr : RWr (nG S) r h) (hb : ∀ i, i < nG S → r i ≤ 6) (hw0 : w ≤ 2) (hq : Q (setZ r w (nG S)) h) : CJ 0 kX7_givenTo [.ref 9, vi w] h Q := by
  obtain ⟨⟨hn, hw, hh, hs⟩, mG, mN, mE⟩ := id hM
  have hnn := wf_n hW
  have hng := nG_eq hW
  refine cj_of (lo := [some (.ref 9), some (vi w), none, none]) mok_X7_givenTo (fun _ => rfl) (fun _ => Nat.le_of_ble_eq_true rfl) ?_
  refine xj_iconst (pc2 := 1) dX7_givenTo_0 rfl ?_
  refine xj_istore2 (pc2 := 2) dX7_givenTo_1 rfl rfl (by decide) rfl ?_
  refine xj_iconst (pc2 := 3) dX7_givenTo_2 rfl ?_
  refine xj_istore3 (pc2 := 4) dX7_givenTo_3 rfl rfl (by decide) rfl ?_
  refine down (P := fun j => XJ none 0 kX7_givenTo h 4 [some (.ref 9), some (vi w), some (vi (bsum (fun g => decide (r g = w + 1)) j)), some (vi j)] [] Q) (n := nG S) ?_ ?_
  · refine xj_iload_n (pc2 := 5) dX7_givenTo_4 rfl rfl rfl ?_
    refine xj_aload_n (pc2 := 6) dX7_givenTo_5 rfl rfl rfl ?_
    refine xj_getI (pc2 := 9) (kz := 1) fok_X7_113 dX7_givenTo_6 rfl rfl rfl (by decide) rfl (by first | assumption | rfl) ?_
    refine xj_cmp_ge (pc2 := 12) (tgt := 40) dX7_givenTo_9 rfl rfl (by omega) (by omega) (fun c_9 => ?_) (fun c_9 => by exfalso; omega)
    refine xj_iload_n (pc2 := 41) dX7_givenTo_40 rfl rfl rfl ?_
    refine xj_iret dX7_givenTo_41 rfl ?_
    exact hq
  · intro j hj ih
    have hrj : h 165 (j : Int) = (r j : Int) := hr j hj
    have hbj := hb j hj
    have hbs := bsum_le6 (p := fun g => decide (r g = w + 1)) (n := j) (by omega)
    refine xj_iload_n (pc2 := 5) dX7_givenTo_4 rfl rfl rfl ?_
    refine xj_aload_n (pc2 := 6) dX7_givenTo_5 rfl rfl rfl ?_
    refine xj_getI (pc2 := 9) (kz := 1) fok_X7_113 dX7_givenTo_6 rfl rfl rfl (by decide) rfl (by first | assumption | rfl) ?_
    refine xj_cmp_ge (pc2 := 12) (tgt := 40) dX7_givenTo_9 rfl rfl (by omega) (by omega) (fun c_9 => by exfalso; omega) (fun c_9 => ?_)
    refine xj_iload_n (pc2 := 13) dX7_givenTo_12 rfl rfl rfl ?_
    refine xj_aload_n (pc2 := 14) dX7_givenTo_13 rfl rfl rfl ?_
    refine xj_getRn (pc2 := 17) (c2 := 165) fok_X7_41 dX7_givenTo_14 rfl rfl rfl rfl rfl ?_
    refine xj_iload_n (pc2 := 18) dX7_givenTo_17 rfl rfl rfl ?_
    refine xj_iald (pc2 := 19) dX7_givenTo_18 rfl rfl (by omega) (by omega) hrj ?_
    refine xj_iload_n (pc2 := 20) dX7_givenTo_19 rfl rfl rfl ?_
    refine xj_iconst (pc2 := 21) dX7_givenTo_20 rfl ?_
    refine xj_iadd (pc2 := 22) dX7_givenTo_21 rfl ?_
    refine xj_cmp_ne (pc2 := 25) (tgt := 31) dX7_givenTo_22 rfl rfl (by omega) (by omega) (fun c_22 => ?_) (fun c_22 => ?_)
    · -- 31
      refine xj_iconst (pc2 := 32) dX7_givenTo_31 rfl ?_
      refine xj_ior (pc2 := 33) dX7_givenTo_32 rfl ?_
      refine xj_istore2 (pc2 := 34) dX7_givenTo_33 rfl rfl (by decide) rfl ?_
      refine xj_iinc3 (pc2 := 37) dX7_givenTo_34 rfl (by decide) rfl ?_
      refine xj_goto (tgt := 4) dX7_givenTo_37 rfl ?_
      first
      | (rw [bor_zero (by omega)]
         rw [← bs_f (decide_eq_false (by omega))] at ih
         exact ih)
      | (rw [← bs_t (decide_eq_true (by omega)) (by omega)] at ih
         exact ih)
    · -- 25
      refine xj_iconst (pc2 := 26) dX7_givenTo_25 rfl ?_
      refine xj_iload_n (pc2 := 27) dX7_givenTo_26 rfl rfl rfl ?_
      refine xj_ishl (pc2 := 28) dX7_givenTo_27 rfl ?_
      refine xj_goto (tgt := 32) dX7_givenTo_28 rfl ?_
      refine xj_ior (pc2 := 33) dX7_givenTo_32 rfl ?_
      refine xj_istore2 (pc2 := 34) dX7_givenTo_33 rfl rfl (by decide) rfl ?_
      refine xj_iinc3 (pc2 := 37) dX7_givenTo_34 rfl (by decide) rfl ?_
      refine xj_goto (tgt := 4) dX7_givenTo_37 rfl ?_
      first
      | (rw [bor_zero (by omega)]
         rw [← bs_f (decide_eq_false (by omega))] at ih
         exact ih)
      | (rw [← bs_t (decide_eq_true (by omega)) (by omega)] at ih
         exact ih)
theorem c_X7_given {S : Sh} {r : Rw} {h : Hp} {Q : Int → Hp → Prop} (hM : RM S h) (hW : WF S) (hr : RWr (nG S) r h) (hb : ∀ i, i < nG S → r i ≤ 6) (hq : Q (givR r (nG S)) h) : CJ 0 kX7_given [.ref 9] h Q := by
  obtain ⟨⟨hn, hw, hh, hs⟩, mG, mN, mE⟩ := id hM
  have hnn := wf_n hW
  have hng := nG_eq hW
  refine cj_of (lo := [some (.ref 9), none, none]) mok_X7_given (fun _ => rfl) (fun _ => Nat.le_of_ble_eq_true rfl) ?_
  refine xj_iconst (pc2 := 1) dX7_given_0 rfl ?_
  refine xj_istore1 (pc2 := 2) dX7_given_1 rfl rfl (by decide) rfl ?_
  refine xj_iconst (pc2 := 3) dX7_given_2 rfl ?_
  refine xj_istore2 (pc2 := 4) dX7_given_3 rfl rfl (by decide) rfl ?_
  refine down (P := fun j => XJ none 0 kX7_given h 4 [some (.ref 9), some (vi (givR r j)), some (vi j)] [] Q) (n := nG S) ?_ ?_
  · refine xj_iload_n (pc2 := 5) dX7_given_4 rfl rfl rfl ?_
    refine xj_aload_n (pc2 := 6) dX7_given_5 rfl rfl rfl ?_
    refine xj_getI (pc2 := 9) (kz := 1) fok_X7_113 dX7_given_6 rfl rfl rfl (by decide) rfl (by first | assumption | rfl) ?_
    refine xj_cmp_ge (pc2 := 12) (tgt := 35) dX7_given_9 rfl rfl (by omega) (by omega) (fun c_9 => ?_) (fun c_9 => by exfalso; omega)
    refine xj_iload_n (pc2 := 36) dX7_given_35 rfl rfl rfl ?_
    refine xj_iret dX7_given_36 rfl ?_
    exact hq
  · intro j hj ih
    have hrj : h 165 (j : Int) = (r j : Int) := hr j hj
    have hbj := hb j hj
    have hgr : 0 ≤ givR r j ∧ givR r j ≤ j := cntz_rg j
    have es : givR r (j + 1) = givR r j + (if decide (r j ≠ 0) = true then 1 else 0) := rfl
    rw [es] at ih
    simp only [decide_eq_true_eq] at ih
    refine xj_iload_n (pc2 := 5) dX7_given_4 rfl rfl rfl ?_
    refine xj_aload_n (pc2 := 6) dX7_given_5 rfl rfl rfl ?_
    refine xj_getI (pc2 := 9) (kz := 1) fok_X7_113 dX7_given_6 rfl rfl rfl (by decide) rfl (by first | assumption | rfl) ?_
    refine xj_cmp_ge (pc2 := 12) (tgt := 35) dX7_given_9 rfl rfl (by omega) (by omega) (fun c_9 => by exfalso; omega) (fun c_9 => ?_)
    refine xj_iload_n (pc2 := 13) dX7_given_12 rfl rfl rfl ?_
    refine xj_aload_n (pc2 := 14) dX7_given_13 rfl rfl rfl ?_
    refine xj_getRn (pc2 := 17) (c2 := 165) fok_X7_41 dX7_given_14 rfl rfl rfl rfl rfl ?_
    refine xj_iload_n (pc2 := 18) dX7_given_17 rfl rfl rfl ?_
    refine xj_iald (pc2 := 19) dX7_given_18 rfl rfl (by omega) (by omega) hrj ?_
    refine xj_if_le (pc2 := 22) (tgt := 26) dX7_given_19 rfl rfl (by omega) (fun c_19 => ?_) (fun c_19 => ?_)
    · -- 26
      refine xj_iconst (pc2 := 27) dX7_given_26 rfl ?_
      refine xj_iadd (pc2 := 28) dX7_given_27 rfl ?_
      refine xj_istore1 (pc2 := 29) dX7_given_28 rfl rfl (by decide) rfl ?_
      refine xj_iinc2 (pc2 := 32) dX7_given_29 rfl (by decide) rfl ?_
      refine xj_goto (tgt := 4) dX7_given_32 rfl ?_
      first
      | (rw [if_pos (by omega)] at ih; exact ih)
      | (rw [if_neg (by omega)] at ih; exact ih)
    · -- 22
      refine xj_iconst (pc2 := 23) dX7_given_22 rfl ?_
      refine xj_goto (tgt := 27) dX7_given_23 rfl ?_
      refine xj_iadd (pc2 := 28) dX7_given_27 rfl ?_
      refine xj_istore1 (pc2 := 29) dX7_given_28 rfl rfl (by decide) rfl ?_
      refine xj_iinc2 (pc2 := 32) dX7_given_29 rfl (by decide) rfl ?_
      refine xj_goto (tgt := 4) dX7_given_32 rfl ?_
      first
      | (rw [if_pos (by omega)] at ih; exact ih)
      | (rw [if_neg (by omega)] at ih; exact ih)
def wbZ (S : Sh) (r : Rw) : Int := if vlR S r = true then valR S r else -1
theorem c_X7_wishedBy {S : Sh} {r : Rw} {h : Hp} {Q : Int → Hp → Prop} (hM : RM S h) (hW : WF S) (hr : RWr (nG S) r h) (hb : ∀ i, i < nG S → r i ≤ 6) (hq : Q (wbZ S r) h) : CJ 4 kX7_wishedBy [.ref 9] h Q := by
  obtain ⟨⟨hn, hw, hh, hs⟩, mG, mN, mE⟩ := id hM
  have hnn := wf_n hW
  have hng := nG_eq hW
  have hnw := nW_eq hW
  unfold wbZ at hq
  refine cj_of (lo := [some (.ref 9), none, none, none]) mok_X7_wishedBy (fun _ => rfl) (fun _ => Nat.le_of_ble_eq_true rfl) ?_
  refine xj_iconst (pc2 := 1) dX7_wishedBy_0 rfl ?_
  refine xj_istore1 (pc2 := 2) dX7_wishedBy_1 rfl rfl (by decide) rfl ?_
  refine xj_iconst (pc2 := 3) dX7_wishedBy_2 rfl ?_
  refine xj_istore2 (pc2 := 4) dX7_wishedBy_3 rfl rfl (by decide) rfl ?_
  refine down (P := fun j => (∀ i, i < j → pc (setZ r i (nG S)) ≤ 2) → XJ none 4 kX7_wishedBy h 4 [some (.ref 9), some (vi (cntz (vaP S r) j)), some (vi j), none] [] Q) (n := nW S) ?_ ?_ (fun i hi => by omega)
  · intro hall
    rw [if_pos (show vlR S r = true from (allb_iff _).mpr (fun w hw => decide_eq_true (hall w hw)))] at hq
    refine xj_iload_n (pc2 := 5) dX7_wishedBy_4 rfl rfl rfl ?_
    refine xj_aload_n (pc2 := 6) dX7_wishedBy_5 rfl rfl rfl ?_
    refine xj_getI (pc2 := 9) (kz := 2) fok_X7_116 dX7_wishedBy_6 rfl rfl rfl (by decide) rfl (by first | assumption | rfl) ?_
    refine xj_cmp_ge (pc2 := 12) (tgt := 57) dX7_wishedBy_9 rfl rfl (by omega) (by omega) (fun c_9 => ?_) (fun c_9 => by exfalso; omega)
    refine xj_iload_n (pc2 := 58) dX7_wishedBy_57 rfl rfl rfl ?_
    refine xj_iret dX7_wishedBy_58 rfl ?_
    exact hq
  · intro j hj ih hall
    have hsr := setZ_rg (r := r) (w := j) (n := nG S) (by omega)
    have hmr := moodZ_rg hW (w := (j : Int)) (b := setZ r j (nG S)) (m := 0) (by omega) (by decide)
    have hcr := cntz_rg (q := vaP S r) j
    have hp6 := pc_rg6 hsr
    have es : cntz (vaP S r) (j + 1) = cntz (vaP S r) j + (if vaP S r j = true then 1 else 0) := rfl
    rw [es] at ih
    refine xj_iload_n (pc2 := 5) dX7_wishedBy_4 rfl rfl rfl ?_
    refine xj_aload_n (pc2 := 6) dX7_wishedBy_5 rfl rfl rfl ?_
    refine xj_getI (pc2 := 9) (kz := 2) fok_X7_116 dX7_wishedBy_6 rfl rfl rfl (by decide) rfl (by first | assumption | rfl) ?_
    refine xj_cmp_ge (pc2 := 12) (tgt := 57) dX7_wishedBy_9 rfl rfl (by omega) (by omega) (fun c_9 => by exfalso; omega) (fun c_9 => ?_)
    refine xj_aload_n (pc2 := 13) dX7_wishedBy_12 rfl rfl rfl ?_
    refine xj_iload_n (pc2 := 14) dX7_wishedBy_13 rfl rfl rfl ?_
    refine xj_V1I (pc2 := 17) (d2 := 0) mok_X7_givenTo ml_X7_191 ima_yX7_givenTo sel_yX7_givenTo rfl rfl dX7_wishedBy_14 rfl rfl (by decide) (by decide) (Nat.le_of_ble_eq_true rfl) (fun _ => rfl) ?_
    refine c_X7_givenTo hM hW hr hb (by omega) ?_
    refine xj_istore3 (pc2 := 18) dX7_wishedBy_17 rfl rfl (by decide) rfl ?_
    refine xj_iload_n (pc2 := 19) dX7_wishedBy_18 rfl rfl rfl ?_
    refine xj_S1I (pc2 := 22) (d2 := 0) mok_X7_size ml_X7_194 sta_yX7_size dX7_wishedBy_19 rfl rfl (by decide) (by decide) (Nat.le_of_ble_eq_true rfl) (fun _ => rfl) ?_
    refine c_X7_size (by omega) ?_
    refine xj_iconst (pc2 := 23) dX7_wishedBy_22 rfl ?_
    refine xj_cmp_le (pc2 := 26) (tgt := 28) dX7_wishedBy_23 rfl rfl (by omega) (by omega) (fun c_23 => ?_) (fun c_23 => ?_)
    · -- 28
      refine xj_iload_n (pc2 := 29) dX7_wishedBy_28 rfl rfl rfl ?_
      refine xj_aload_n (pc2 := 30) dX7_wishedBy_29 rfl rfl rfl ?_
      refine xj_iload_n (pc2 := 31) dX7_wishedBy_30 rfl rfl rfl ?_
      refine xj_aload_n (pc2 := 32) dX7_wishedBy_31 rfl rfl rfl ?_
      refine xj_iload_n (pc2 := 33) dX7_wishedBy_32 rfl rfl rfl ?_
      refine xj_iload_n (pc2 := 34) dX7_wishedBy_33 rfl rfl rfl ?_
      refine xj_iconst (pc2 := 35) dX7_wishedBy_34 rfl ?_
      refine xj_V3I (pc2 := 38) (d2 := 3) mok_X7_moodWith ml_X7_149 ima_yX7_moodWith sel_yX7_moodWith rfl rfl dX7_wishedBy_35 rfl rfl (by decide) (by decide) (Nat.le_of_ble_eq_true rfl) (fun _ => rfl) ?_
      refine c_X7_moodWith hM hW (by omega) (by omega) (by omega) ?_
      refine xj_V2I (pc2 := 41) (d2 := 1) mok_X7_isWished ml_X7_176 ima_yX7_isWished sel_yX7_isWished rfl rfl dX7_wishedBy_38 rfl rfl (by decide) (by decide) (Nat.le_of_ble_eq_true rfl) (fun _ => rfl) ?_
      refine c_X7_isWished hM hW (by omega) (by omega) ?_ ?_
      · -- X7_isWished = 1
        intro c_38
        refine xj_if_eq (pc2 := 44) (tgt := 48) dX7_wishedBy_41 rfl rfl (by omega) (fun c_41 => absurd c_41 (by decide)) (fun c_41 => ?_)
        refine xj_iconst (pc2 := 45) dX7_wishedBy_44 rfl ?_
        refine xj_goto (tgt := 49) dX7_wishedBy_45 rfl ?_
        refine xj_iadd (pc2 := 50) dX7_wishedBy_49 rfl ?_
        refine xj_istore1 (pc2 := 51) dX7_wishedBy_50 rfl rfl (by decide) rfl ?_
        refine xj_iinc2 (pc2 := 54) dX7_wishedBy_51 rfl (by decide) rfl ?_
        refine xj_goto (tgt := 4) dX7_wishedBy_54 rfl ?_
        have ih2 := ih (fun i hi => by
          by_cases e : i = j
          · subst e; omega
          · exact hall i (by omega))
        first
        | (rw [if_pos (show vaP S r j = true from c_38)] at ih2; exact xj_sub (by repeat (first | exact subL_nil | apply subL_none | apply subL_some rfl)) ih2)
        | (rw [if_neg (show ¬ vaP S r j = true from c_38)] at ih2; exact xj_sub (by repeat (first | exact subL_nil | apply subL_none | apply subL_some rfl)) ih2)
      · -- X7_isWished = 0
        intro c_38
        refine xj_if_eq (pc2 := 44) (tgt := 48) dX7_wishedBy_41 rfl rfl (by omega) (fun c_41 => ?_) (fun c_41 => absurd c_41 (by decide))
        refine xj_iconst (pc2 := 49) dX7_wishedBy_48 rfl ?_
        refine xj_iadd (pc2 := 50) dX7_wishedBy_49 rfl ?_
        refine xj_istore1 (pc2 := 51) dX7_wishedBy_50 rfl rfl (by decide) rfl ?_
        refine xj_iinc2 (pc2 := 54) dX7_wishedBy_51 rfl (by decide) rfl ?_
        refine xj_goto (tgt := 4) dX7_wishedBy_54 rfl ?_
        have ih2 := ih (fun i hi => by
          by_cases e : i = j
          · subst e; omega
          · exact hall i (by omega))
        first
        | (rw [if_pos (show vaP S r j = true from c_38)] at ih2; exact xj_sub (by repeat (first | exact subL_nil | apply subL_none | apply subL_some rfl)) ih2)
        | (rw [if_neg (show ¬ vaP S r j = true from c_38)] at ih2; exact xj_sub (by repeat (first | exact subL_nil | apply subL_none | apply subL_some rfl)) ih2)
    · -- 26
      refine xj_iconst (pc2 := 27) dX7_wishedBy_26 rfl ?_
      refine xj_iret dX7_wishedBy_27 rfl ?_
      rw [if_neg (fun q => by have := of_decide_eq_true ((allb_iff _).mp q j hj); omega)] at hq
      exact hq
theorem nx_up {n : Nat} {lim : Nat → Rw → Nat} {r r' : Rw} {k : Nat} (h : nx n lim k r = some r') : ∀ m, nx n lim (k + m) r = some r'
  | 0 => h
  | m + 1 => by
    show (match nx n lim (k + m) r with | some r' => some r' | none => _) = _
    rw [nx_up h m]
theorem c_X7_nextGiven {S : Sh} {r : Rw} {h : Hp} {Q : Int → Hp → Prop} (hM : RM S h) (hW : WF S) (hr : RWr (nG S) r h) (hb : ∀ i, i < nG S → r i ≤ nW S) (h1 : ∀ r', nx (nG S) (limD S) (nG S) r = some r' → ∀ h', RWr (nG S) r' h' → EX h h' 165 → Q 1 h') (h0 : nx (nG S) (limD S) (nG S) r = none → ∀ h', EX h h' 165 → Q 0 h') : CJ 0 kX7_nextGiven [.ref 9] h Q := by
  obtain ⟨⟨hn, hw, hh, hs⟩, mG, mN, mE⟩ := id hM
  have hnn := wf_n hW
  have hng := nG_eq hW
  have hnw := nW_eq hW
  refine cj_of (lo := [some (.ref 9), none]) mok_X7_nextGiven (fun _ => rfl) (fun _ => Nat.le_of_ble_eq_true rfl) ?_
  refine xj_aload_n (pc2 := 1) dX7_nextGiven_0 rfl rfl rfl ?_
  refine xj_getI (pc2 := 4) (kz := 1) fok_X7_113 dX7_nextGiven_1 rfl rfl rfl (by decide) rfl (by first | assumption | rfl) ?_
  refine xj_iconst (pc2 := 5) dX7_nextGiven_4 rfl ?_
  refine xj_isub (pc2 := 6) dX7_nextGiven_5 rfl ?_
  refine xj_istore1 (pc2 := 7) dX7_nextGiven_6 rfl rfl (by decide) rfl ?_
  refine down (P := fun k => ∀ (g : Int) (h' : Hp), g = S 6 0 - 1 - k → EX h h' 165 → RWr (nG S) (zr (nG S) k r) h' → nx (nG S) (limD S) k r = none → XJ none 0 kX7_nextGiven h' 7 [some (.ref 9), some (vi g)] [] Q) (n := nG S) ?_ ?_ _ h (by omega) EX_rf (fun i hi => by unfold zr; rw [if_neg (by omega)]; exact hr i hi) rfl
  · intro g h' hg hex hrw hnx
    refine xj_iload_n (pc2 := 8) dX7_nextGiven_7 rfl rfl rfl ?_
    refine xj_if_lt (pc2 := 11) (tgt := 37) dX7_nextGiven_8 rfl rfl (by omega) (fun c_8 => ?_) (fun c_8 => by exfalso; omega)
    refine xj_iload_n (pc2 := 38) dX7_nextGiven_37 rfl rfl rfl ?_
    refine xj_if_ge (pc2 := 41) (tgt := 43) dX7_nextGiven_38 rfl rfl (by omega) (fun c_38 => by exfalso; omega) (fun c_38 => ?_)
    refine xj_iconst (pc2 := 42) dX7_nextGiven_41 rfl ?_
    refine xj_zret dX7_nextGiven_42 rfl (by decide) ?_
    exact h0 hnx _ hex
  · intro k hk ih g h' hg hex hrw hnx
    have hw' : h' 9 2 = S 6 1 := (hex _ _ (by decide)).trans hw
    have hgk : g = ((nG S - (k + 1) : Nat) : Int) := by omega
    have hrow : h' 165 g = (r (nG S - (k + 1)) : Int) := by
      rw [hgk, hrw _ (by omega)]
      unfold zr
      rw [if_neg (by omega)]
    have hbk := hb (nG S - (k + 1)) (by omega)
    have enx : nx (nG S) (limD S) (k + 1) r = if r (nG S - (k + 1)) < nW S then some (zr (nG S) k (ups r (nG S - (k + 1)) (r (nG S - (k + 1)) + 1))) else none := by
      show (match nx (nG S) (limD S) k r with | some r' => some r' | none => _) = _
      rw [hnx]
      rfl
    refine xj_iload_n (pc2 := 8) dX7_nextGiven_7 rfl rfl rfl ?_
    refine xj_if_lt (pc2 := 11) (tgt := 37) dX7_nextGiven_8 rfl rfl (by omega) (fun c_8 => by exfalso; omega) (fun c_8 => ?_)
    refine xj_aload_n (pc2 := 12) dX7_nextGiven_11 rfl rfl rfl ?_
    refine xj_getRn (pc2 := 15) (c2 := 165) fok_X7_41 dX7_nextGiven_12 rfl rfl rfl rfl rfl ?_
    refine xj_iload_n (pc2 := 16) dX7_nextGiven_15 rfl rfl rfl ?_
    refine xj_iald (pc2 := 17) dX7_nextGiven_16 rfl rfl (by omega) (by omega) hrow ?_
    refine xj_aload_n (pc2 := 18) dX7_nextGiven_17 rfl rfl rfl ?_
    refine xj_getI (pc2 := 21) (kz := 2) fok_X7_116 dX7_nextGiven_18 rfl rfl rfl (by decide) rfl (by first | assumption | rfl) ?_
    refine xj_cmp_ne (pc2 := 24) (tgt := 37) dX7_nextGiven_21 rfl rfl (by omega) (by omega) (fun c_21 => ?_) (fun c_21 => ?_)
    · -- 37
      refine xj_iload_n (pc2 := 38) dX7_nextGiven_37 rfl rfl rfl ?_
      refine xj_if_ge (pc2 := 41) (tgt := 43) dX7_nextGiven_38 rfl rfl (by omega) (fun c_38 => ?_) (fun c_38 => by exfalso; omega)
      refine xj_aload_n (pc2 := 44) dX7_nextGiven_43 rfl rfl rfl ?_
      refine xj_getRn (pc2 := 47) (c2 := 165) fok_X7_41 dX7_nextGiven_44 rfl rfl rfl rfl rfl ?_
      refine xj_iload_n (pc2 := 48) dX7_nextGiven_47 rfl rfl rfl ?_
      refine xj_dup2 (pc2 := 49) dX7_nextGiven_48 rfl rfl rfl ?_
      refine xj_iald (pc2 := 50) dX7_nextGiven_49 rfl rfl (by omega) (by omega) hrow ?_
      refine xj_iconst (pc2 := 51) dX7_nextGiven_50 rfl ?_
      refine xj_iadd (pc2 := 52) dX7_nextGiven_51 rfl ?_
      refine xj_iast (pc2 := 53) dX7_nextGiven_52 rfl rfl (by omega) (by omega) ?_
      refine xj_iconst (pc2 := 54) dX7_nextGiven_53 rfl ?_
      refine xj_zret dX7_nextGiven_54 rfl (by decide) ?_
      rw [if_pos (by omega)] at enx
      refine h1 _ (by have := nx_up enx (nG S - (k + 1)); rw [show k + 1 + (nG S - (k + 1)) = nG S by omega] at this; exact this) _ (fun i hi => ?_) (fun c k' q => by rw [hset_nc q]; exact hex c k' q)
      by_cases e : i = nG S - (k + 1)
      · rw [show ((i : Nat) : Int) = g by omega, hset_eq]
        unfold zr ups
        rw [if_neg (by omega), if_pos e]
        omega
      · rw [hset_nk (by omega), hrw i hi]
        unfold zr ups
        by_cases e2 : nG S ≤ i + k
        · rw [if_pos ⟨e2, hi⟩, if_pos ⟨e2, hi⟩]
        · rw [if_neg (by omega), if_neg (by omega), if_neg e]
    · -- 24
      refine xj_aload_n (pc2 := 25) dX7_nextGiven_24 rfl rfl rfl ?_
      refine xj_getRn (pc2 := 28) (c2 := 165) fok_X7_41 dX7_nextGiven_25 rfl rfl rfl rfl rfl ?_
      refine xj_iload_n (pc2 := 29) dX7_nextGiven_28 rfl rfl rfl ?_
      refine xj_iconst (pc2 := 30) dX7_nextGiven_29 rfl ?_
      refine xj_iast (pc2 := 31) dX7_nextGiven_30 rfl rfl (by omega) (by omega) ?_
      refine xj_iinc1 (pc2 := 34) dX7_nextGiven_31 rfl (by decide) rfl ?_
      refine xj_goto (tgt := 7) dX7_nextGiven_34 rfl ?_
      refine ih _ _ (by omega) (fun c k' q => by rw [hset_nc q]; exact hex c k' q) (fun i hi => ?_) (by rw [enx, if_neg (by omega)])
      by_cases e : i = nG S - (k + 1)
      · rw [show ((i : Nat) : Int) = g by omega, hset_eq]
        unfold zr
        rw [if_pos (by omega)]
        rfl
      · rw [hset_nk (by omega), hrw i hi]
        unfold zr
        by_cases e2 : nG S ≤ i + k
        · rw [if_pos ⟨e2, hi⟩, if_pos ⟨by omega, hi⟩]
        · rw [if_neg (by omega), if_neg (by omega)]
theorem c_X7_dressNow {S : Sh} {x : Int} {h : Hp} {Q : Int → Hp → Prop} (hM : RM S h) (hW : WF S) (hx : (0 ≤ x ∧ x ≤ 1) ∨ (10 ≤ x ∧ x ≤ 15)) (hq : ∀ h', FR h h' → Q (dressA S x) h') : CJ 5 kX7_dressNow [.ref 9, vi x] h Q := by
  have hnn := wf_n hW
  have hng := nG_eq hW
  have hnw := nW_eq hW
  have hdn := dA_nn hW
  have hM0 := hM
  have key : ∀ (l : List Rw) (r : Rw) (a : Ac) (h' : Hp), Rk (nG S) (limD S) (nG S) r = l → l.foldl (fun a r => lfD S r a) a = dA S → FR h h' → RWr (nG S) r h' → (∀ i, i < nG S → r i ≤ nW S) → (∀ i : Nat, nG S ≤ i → i < 6 → h' 166 i = -1) → (0 ≤ a.1 → ∀ i : Nat, i < nG S → h' 166 i = (a.2.2 i : Int) - 1) → (a.1 = -1 → vlR S r = true) → ((-1 ≤ a.1 ∧ a.1 ≤ 3) ∧ (0 ≤ a.2.1 ∧ a.2.1 ≤ 268435456)) → XJ none 5 kX7_dressNow h' 12 [some (.ref 9), some (vi x), some (vi a.1), some (vi a.2.1), some (vi 1), none] [] Q := by
    intro l
    induction l with
    | nil => intro r a h' hl; rw [Rk_nx (limD_P S) (nG S) r (Nat.le_refl _)] at hl; exact absurd hl (by simp)
    | cons r' tl ih =>
      intro r a h' hl hfo hf hr hb2 hbe hbk hv hrg
      have hM := RM_FR hM hf
      have hb : ∀ i, i < nG S → r i ≤ 6 := fun i hi => by have := hb2 i hi; omega
      have hl2 := hl
      rw [Rk_nx (limD_P S) (nG S) r (Nat.le_refl _)] at hl2
      injection hl2 with e1 e2
      subst e1
      rw [List.foldl_cons] at hfo
      have hvr : 0 ≤ valR S r ∧ valR S r ≤ 3 := by have := cntz_rg (q := vaP S r) (nW S); unfold valR; omega
      have hgr : 0 ≤ givR r (nG S) ∧ givR r (nG S) ≤ 6 := by have := cntz_rg (q := fun g => decide (r g ≠ 0)) (nG S); unfold givR; omega
      have hwb : (vlR S r = true ∧ wbZ S r = valR S r) ∨ (¬ vlR S r = true ∧ wbZ S r = -1) := by
        unfold wbZ
        by_cases q : vlR S r = true
        · exact Or.inl ⟨q, if_pos q⟩
        · exact Or.inr ⟨q, if_neg q⟩
      have hpos : a.1 < wbZ S r ∨ (a.1 = wbZ S r ∧ givR r (nG S) < a.2.1) → lfD S r a = (wbZ S r, givR r (nG S), r) := by
        intro q
        rcases hwb with ⟨w1, w2⟩ | ⟨w1, w2⟩
        · unfold lfD; rw [w2, if_pos ⟨w1, by omega⟩]
        · exfalso
          by_cases q2 : a.1 = -1
          · exact w1 (hv q2)
          · omega
      have hneg : ¬ (a.1 < wbZ S r ∨ (a.1 = wbZ S r ∧ givR r (nG S) < a.2.1)) → lfD S r a = a := by
        intro q
        unfold lfD
        rw [if_neg]
        rintro ⟨w1, w2⟩
        rcases hwb with ⟨w3, w4⟩ | ⟨w3, w4⟩
        · omega
        · exact w3 w1
      have hnn2 : 0 ≤ (lfD S r a).1 := by
        by_cases q : a.1 = -1
        · rcases hwb with ⟨w1, w2⟩ | ⟨w1, w2⟩
          · rw [hpos (Or.inl (by omega))]; show 0 ≤ wbZ S r; omega
          · exact absurd (hv q) w1
        · exact lfD_nn (by omega)
      have next : ∀ (h4 : Hp), FR h h4 → RWr (nG S) r h4 → (∀ i : Nat, nG S ≤ i → i < 6 → h4 166 i = -1) → (∀ i : Nat, i < nG S → h4 166 i = ((lfD S r a).2.2 i : Int) - 1) → ((lfD S r a).1 ≤ 3 ∧ (0 ≤ (lfD S r a).2.1 ∧ (lfD S r a).2.1 ≤ 268435456)) → XJ none 5 kX7_dressNow h4 56 [some (.ref 9), some (vi x), some (vi (lfD S r a).1), some (vi (lfD S r a).2.1), none, none] [] Q := by
        intro h4 hf hr hbe hbk hrg2
        have hM := RM_FR hM0 hf
        have onMore : ∀ r', nx (nG S) (limD S) (nG S) r = some r' → ∀ h5, RWr (nG S) r' h5 → EX h4 h5 165 → XJ none 5 kX7_dressNow h5 12 [some (.ref 9), some (vi x), some (vi (lfD S r a).1), some (vi (lfD S r a).2.1), some (vi 1), none] [] Q := by
          intro r' hnx h5 hr5 hex5
          rw [hnx] at e2
          refine xj_sub (by repeat (first | exact subL_nil | apply subL_none | apply subL_some rfl)) (ih r' (lfD S r a) h5 e2 hfo (FR_tr hf (fun c k q1 q2 => hex5 c k q1)) hr5 ?_ (fun i q1 q2 => by rw [hex5 166 _ (by decide)]; exact hbe i q1 q2) (fun _ i hi => by rw [hex5 166 _ (by decide)]; exact hbk i hi) (fun q => by omega) ⟨⟨by omega, hrg2.1⟩, hrg2.2⟩)
          intro i hi
          have hmem : r' ∈ Rk (nG S) (limD S) (nG S) r' := by rw [Rk_nx (limD_P S) (nG S) r' (Nat.le_refl _)]; exact List.mem_cons_self
          have := Rk_lim (limD_P S) (nG S) r (Nat.le_refl _) (fun i hi => hb2 i hi) r' (by rw [hl, ← e2]; exact List.mem_cons_of_mem _ hmem) i hi
          exact this
        have onEnd : nx (nG S) (limD S) (nG S) r = none → ∀ h5, EX h4 h5 165 → XJ none 5 kX7_dressNow h5 12 [some (.ref 9), some (vi x), some (vi (lfD S r a).1), some (vi (lfD S r a).2.1), some (vi 0), none] [] Q := by
          intro hnx h5 hex5
          rw [hnx] at e2
          rw [← e2, List.foldl_nil] at hfo
          rw [hfo] at hbk hnn2 hrg2 ⊢
          have hf5 : FR h h5 := FR_tr hf (fun c k q1 q2 => hex5 c k q1)
          have hb5 : ∀ i : Nat, i < 6 → h5 166 i = if i < nG S then ((dA S).2.2 i : Int) - 1 else -1 := by
            intro i hi
            rw [hex5 166 _ (by decide)]
            by_cases q : i < nG S
            · rw [if_pos q]; exact hbk i q
            · rw [if_neg q]; exact hbe i (by omega) hi
          have hbx : 10 ≤ x → h5 166 (x - 10) = dressA S x := by
            intro q
            have := hb5 (x - 10).toNat (by omega)
            rw [show (((x - 10).toNat : Nat) : Int) = x - 10 by omega] at this
            have e0 : dressA S x = bestD S (x - 10) := by unfold dressA; rw [if_neg (show ¬ x = 0 by omega), if_neg (show ¬ x = 1 by omega)]
            rw [this, e0]
            unfold bestD
            by_cases q2 : (x - 10).toNat < nG S
            · rw [if_pos q2, if_pos (by omega)]
            · rw [if_neg q2, if_neg (by omega)]
          refine xj_iload (pc2 := 14) dX7_dressNow_12 rfl rfl ?_
          refine xj_if_eq (pc2 := 17) (tgt := 65) dX7_dressNow_14 rfl rfl (by omega) (fun c_14 => ?_) (fun c_14 => absurd c_14 (by decide))
          refine xj_iload_n (pc2 := 66) dX7_dressNow_65 rfl rfl rfl ?_
          refine xj_if_ne (pc2 := 69) (tgt := 73) dX7_dressNow_66 rfl rfl (by omega) (fun c_66 => ?_) (fun c_66 => ?_)
          · -- 73
            refine xj_iload_n (pc2 := 74) dX7_dressNow_73 rfl rfl rfl ?_
            refine xj_iconst (pc2 := 75) dX7_dressNow_74 rfl ?_
            refine xj_cmp_ne (pc2 := 78) (tgt := 82) dX7_dressNow_75 rfl rfl (by omega) (by omega) (fun c_75 => ?_) (fun c_75 => ?_)
            · -- 82
              refine xj_aload_n (pc2 := 83) dX7_dressNow_82 rfl rfl rfl ?_
              refine xj_getRn (pc2 := 86) (c2 := 166) fok_X7_44 dX7_dressNow_83 rfl rfl rfl rfl rfl ?_
              refine xj_iload_n (pc2 := 87) dX7_dressNow_86 rfl rfl rfl ?_
              refine xj_bipush (pc2 := 89) dX7_dressNow_87 rfl (by decide) ?_
              refine xj_isub (pc2 := 90) dX7_dressNow_89 rfl ?_
              refine xj_iald (pc2 := 91) dX7_dressNow_90 rfl rfl (by omega) (by omega) (hbx (by omega)) ?_
              refine xj_iret dX7_dressNow_91 rfl ?_
              first
              | (refine q_eq ?_ (hq _ hf5); unfold dressA; rw [if_pos c_66])
              | (refine q_eq ?_ (hq _ hf5); unfold dressA; rw [if_neg (by omega), if_pos (by omega)])
              | exact hq _ hf5
            · -- 78
              refine xj_iload_n (pc2 := 79) dX7_dressNow_78 rfl rfl rfl ?_
              refine xj_goto (tgt := 91) dX7_dressNow_79 rfl ?_
              refine xj_iret dX7_dressNow_91 rfl ?_
              first
              | (refine q_eq ?_ (hq _ hf5); unfold dressA; rw [if_pos c_66])
              | (refine q_eq ?_ (hq _ hf5); unfold dressA; rw [if_neg (by omega), if_pos (by omega)])
              | exact hq _ hf5
          · -- 69
            refine xj_iload_n (pc2 := 70) dX7_dressNow_69 rfl rfl rfl ?_
            refine xj_goto (tgt := 91) dX7_dressNow_70 rfl ?_
            refine xj_iret dX7_dressNow_91 rfl ?_
            first
            | (refine q_eq ?_ (hq _ hf5); unfold dressA; rw [if_pos c_66])
            | (refine q_eq ?_ (hq _ hf5); unfold dressA; rw [if_neg (by omega), if_pos (by omega)])
            | exact hq _ hf5
        refine xj_aload_n (pc2 := 57) dX7_dressNow_56 rfl rfl rfl ?_
        refine xj_V0I (pc2 := 60) (d2 := 0) mok_X7_nextGiven ml_X7_211 ima_yX7_nextGiven sel_yX7_nextGiven rfl rfl dX7_dressNow_57 rfl rfl (by decide) (by decide) (Nat.le_of_ble_eq_true rfl) (fun _ => rfl) ?_
        refine c_X7_nextGiven hM hW hr hb2 ?_ ?_
        · -- X7_nextGiven = 1
          intro c_57
          intro hnx h5 hr5 hex5
          refine xj_istore4 (pc2 := 62) dX7_dressNow_60 rfl (by decide) rfl ?_
          refine xj_goto (tgt := 12) dX7_dressNow_62 rfl ?_
          first
          | exact xj_sub (by repeat (first | exact subL_nil | apply subL_none | apply subL_some rfl)) (onMore _ hnx _ hr5 hex5)
          | exact xj_sub (by repeat (first | exact subL_nil | apply subL_none | apply subL_some rfl)) (onEnd c_57 _ hex5)
        · -- X7_nextGiven = 0
          intro c_57
          intro h5 hex5
          refine xj_istore4 (pc2 := 62) dX7_dressNow_60 rfl (by decide) rfl ?_
          refine xj_goto (tgt := 12) dX7_dressNow_62 rfl ?_
          first
          | exact xj_sub (by repeat (first | exact subL_nil | apply subL_none | apply subL_some rfl)) (onMore _ hnx _ hr5 hex5)
          | exact xj_sub (by repeat (first | exact subL_nil | apply subL_none | apply subL_some rfl)) (onEnd c_57 _ hex5)
      refine xj_iload (pc2 := 14) dX7_dressNow_12 rfl rfl ?_
      refine xj_if_eq (pc2 := 17) (tgt := 65) dX7_dressNow_14 rfl rfl (by omega) (fun c_14 => absurd c_14 (by decide)) (fun c_14 => ?_)
      refine xj_aload_n (pc2 := 18) dX7_dressNow_17 rfl rfl rfl ?_
      refine xj_V0I (pc2 := 21) (d2 := 4) mok_X7_wishedBy ml_X7_201 ima_yX7_wishedBy sel_yX7_wishedBy rfl rfl dX7_dressNow_18 rfl rfl (by decide) (by decide) (Nat.le_of_ble_eq_true rfl) (fun _ => rfl) ?_
      refine c_X7_wishedBy hM hW hr hb ?_
      refine xj_istore5 (pc2 := 23) dX7_dressNow_21 rfl (by decide) rfl ?_
      refine xj_iload (pc2 := 25) dX7_dressNow_23 rfl rfl ?_
      refine xj_iload_n (pc2 := 26) dX7_dressNow_25 rfl rfl rfl ?_
      refine xj_cmp_gt (pc2 := 29) (tgt := 43) dX7_dressNow_26 rfl rfl (by omega) (by omega) (fun c_26 => ?_) (fun c_26 => ?_)
      · -- 43
        refine xj_iload (pc2 := 45) dX7_dressNow_43 rfl rfl ?_
        refine xj_istore2 (pc2 := 46) dX7_dressNow_45 rfl rfl (by decide) rfl ?_
        refine xj_aload_n (pc2 := 47) dX7_dressNow_46 rfl rfl rfl ?_
        refine xj_V0I (pc2 := 50) (d2 := 0) mok_X7_given ml_X7_204 ima_yX7_given sel_yX7_given rfl rfl dX7_dressNow_47 rfl rfl (by decide) (by decide) (Nat.le_of_ble_eq_true rfl) (fun _ => rfl) ?_
        refine c_X7_given hM hW hr hb ?_
        refine xj_istore3 (pc2 := 51) dX7_dressNow_50 rfl rfl (by decide) rfl ?_
        refine xj_aload_n (pc2 := 52) dX7_dressNow_51 rfl rfl rfl ?_
        refine xj_iconst (pc2 := 53) dX7_dressNow_52 rfl ?_
        refine xj_V1V (pc2 := 56) (d2 := 0) mok_X7_keepRow ml_X7_207 ima_yX7_keepRow sel_yX7_keepRow rfl rfl dX7_dressNow_53 rfl rfl (by decide) (by decide) (Nat.le_of_ble_eq_true rfl) (fun _ => rfl) ?_
        refine c_X7_keepRow hM hW hr hb (by omega) ?_
        intro h3 hk1 hk2 hf3
        first
        | (have ep := hpos (by omega)
           rw [ep] at next
           refine xj_sub (by repeat (first | exact subL_nil | apply subL_none | apply subL_some rfl)) (next h3 (FR_tr hf (fun c k q1 q2 => hf3 c k q2)) (RWr_ex hr hf3) (fun i q1 q2 => by rw [hk2 i q1]; exact hbe i q1 q2) (fun i hi => hk1 i hi) ⟨by rcases hwb with ⟨w1, w2⟩ | ⟨w1, w2⟩ <;> (show wbZ S r ≤ 3; omega), by show 0 ≤ givR r (nG S); omega, by show givR r (nG S) ≤ _; omega⟩))
        | (have ep := hneg (by omega)
           rw [ep] at next hnn2
           refine xj_sub (by repeat (first | exact subL_nil | apply subL_none | apply subL_some rfl)) (next _ hf hr hbe (hbk hnn2) ⟨by omega, hrg.2⟩))
      · -- 29
        refine xj_iload (pc2 := 31) dX7_dressNow_29 rfl rfl ?_
        refine xj_iload_n (pc2 := 32) dX7_dressNow_31 rfl rfl rfl ?_
        refine xj_cmp_ne (pc2 := 35) (tgt := 56) dX7_dressNow_32 rfl rfl (by omega) (by omega) (fun c_32 => ?_) (fun c_32 => ?_)
        · -- 56
          first
          | (have ep := hpos (by omega)
             rw [ep] at next
             refine xj_sub (by repeat (first | exact subL_nil | apply subL_none | apply subL_some rfl)) (next h3 (FR_tr hf (fun c k q1 q2 => hf3 c k q2)) (RWr_ex hr hf3) (fun i q1 q2 => by rw [hk2 i q1]; exact hbe i q1 q2) (fun i hi => hk1 i hi) ⟨by rcases hwb with ⟨w1, w2⟩ | ⟨w1, w2⟩ <;> (show wbZ S r ≤ 3; omega), by show 0 ≤ givR r (nG S); omega, by show givR r (nG S) ≤ _; omega⟩))
          | (have ep := hneg (by omega)
             rw [ep] at next hnn2
             refine xj_sub (by repeat (first | exact subL_nil | apply subL_none | apply subL_some rfl)) (next _ hf hr hbe (hbk hnn2) ⟨by omega, hrg.2⟩))
        · -- 35
          refine xj_aload_n (pc2 := 36) dX7_dressNow_35 rfl rfl rfl ?_
          refine xj_V0I (pc2 := 39) (d2 := 0) mok_X7_given ml_X7_204 ima_yX7_given sel_yX7_given rfl rfl dX7_dressNow_36 rfl rfl (by decide) (by decide) (Nat.le_of_ble_eq_true rfl) (fun _ => rfl) ?_
          refine c_X7_given hM hW hr hb ?_
          refine xj_iload_n (pc2 := 40) dX7_dressNow_39 rfl rfl rfl ?_
          refine xj_cmp_ge (pc2 := 43) (tgt := 56) dX7_dressNow_40 rfl rfl (by omega) (by omega) (fun c_40 => ?_) (fun c_40 => ?_)
          · -- 56
            first
            | (have ep := hpos (by omega)
               rw [ep] at next
               refine xj_sub (by repeat (first | exact subL_nil | apply subL_none | apply subL_some rfl)) (next h3 (FR_tr hf (fun c k q1 q2 => hf3 c k q2)) (RWr_ex hr hf3) (fun i q1 q2 => by rw [hk2 i q1]; exact hbe i q1 q2) (fun i hi => hk1 i hi) ⟨by rcases hwb with ⟨w1, w2⟩ | ⟨w1, w2⟩ <;> (show wbZ S r ≤ 3; omega), by show 0 ≤ givR r (nG S); omega, by show givR r (nG S) ≤ _; omega⟩))
            | (have ep := hneg (by omega)
               rw [ep] at next hnn2
               refine xj_sub (by repeat (first | exact subL_nil | apply subL_none | apply subL_some rfl)) (next _ hf hr hbe (hbk hnn2) ⟨by omega, hrg.2⟩))
          · -- 43
            refine xj_iload (pc2 := 45) dX7_dressNow_43 rfl rfl ?_
            refine xj_istore2 (pc2 := 46) dX7_dressNow_45 rfl rfl (by decide) rfl ?_
            refine xj_aload_n (pc2 := 47) dX7_dressNow_46 rfl rfl rfl ?_
            refine xj_V0I (pc2 := 50) (d2 := 0) mok_X7_given ml_X7_204 ima_yX7_given sel_yX7_given rfl rfl dX7_dressNow_47 rfl rfl (by decide) (by decide) (Nat.le_of_ble_eq_true rfl) (fun _ => rfl) ?_
            refine c_X7_given hM hW hr hb ?_
            refine xj_istore3 (pc2 := 51) dX7_dressNow_50 rfl rfl (by decide) rfl ?_
            refine xj_aload_n (pc2 := 52) dX7_dressNow_51 rfl rfl rfl ?_
            refine xj_iconst (pc2 := 53) dX7_dressNow_52 rfl ?_
            refine xj_V1V (pc2 := 56) (d2 := 0) mok_X7_keepRow ml_X7_207 ima_yX7_keepRow sel_yX7_keepRow rfl rfl dX7_dressNow_53 rfl rfl (by decide) (by decide) (Nat.le_of_ble_eq_true rfl) (fun _ => rfl) ?_
            refine c_X7_keepRow hM hW hr hb (by omega) ?_
            intro h3 hk1 hk2 hf3
            first
            | (have ep := hpos (by omega)
               rw [ep] at next
               refine xj_sub (by repeat (first | exact subL_nil | apply subL_none | apply subL_some rfl)) (next h3 (FR_tr hf (fun c k q1 q2 => hf3 c k q2)) (RWr_ex hr hf3) (fun i q1 q2 => by rw [hk2 i q1]; exact hbe i q1 q2) (fun i hi => hk1 i hi) ⟨by rcases hwb with ⟨w1, w2⟩ | ⟨w1, w2⟩ <;> (show wbZ S r ≤ 3; omega), by show 0 ≤ givR r (nG S); omega, by show givR r (nG S) ≤ _; omega⟩))
            | (have ep := hneg (by omega)
               rw [ep] at next hnn2
               refine xj_sub (by repeat (first | exact subL_nil | apply subL_none | apply subL_some rfl)) (next _ hf hr hbe (hbk hnn2) ⟨by omega, hrg.2⟩))
  obtain ⟨tl, hd1, hd2⟩ := dA_list hW
  refine cj_of (lo := [some (.ref 9), some (vi x), none, none, none, none]) mok_X7_dressNow (fun _ => rfl) (fun _ => Nat.le_of_ble_eq_true rfl) ?_
  refine xj_aload_n (pc2 := 1) dX7_dressNow_0 rfl rfl rfl ?_
  refine xj_V0V (pc2 := 4) (d2 := 0) mok_X7_begin ml_X7_197 ima_yX7_begin sel_yX7_begin rfl rfl dX7_dressNow_1 rfl rfl (by decide) (by decide) (Nat.le_of_ble_eq_true rfl) (fun _ => rfl) ?_
  refine c_X7_begin ?_
  intro h2 hbg hf2
  refine xj_iconst (pc2 := 5) dX7_dressNow_4 rfl ?_
  refine xj_istore2 (pc2 := 6) dX7_dressNow_5 rfl rfl (by decide) rfl ?_
  refine xj_ldc (pc2 := 8) (n := 268435456) dX7_dressNow_6 rfl k_X7_200 rfl ?_
  refine xj_istore3 (pc2 := 9) dX7_dressNow_8 rfl rfl (by decide) rfl ?_
  refine xj_iconst (pc2 := 10) dX7_dressNow_9 rfl ?_
  refine xj_istore4 (pc2 := 12) dX7_dressNow_10 rfl (by decide) rfl ?_
  refine xj_sub (by repeat (first | exact subL_nil | apply subL_none | apply subL_some rfl)) (key _ r0 (-1, 268435456, r0) h2 hd1 ?_ hf2 (fun i hi => (hbg i (by omega)).1) (fun i hi => Nat.zero_le _) (fun i q1 q2 => (hbg i q2).2) (fun q => by exact absurd q (by decide)) (fun _ => vlR_r0 (by omega)) (by decide))
  rw [List.foldl_cons, lfD_r0 (by omega) rfl]
  exact hd2.symm

theorem c_X7_dress {S I : Sh} {len x : Int} {pg : Int → Int} {im tr td : Int} {h : Hp} {Q : Int → Hp → Prop} (hK : KM S I len pg im tr td h) (hW : WF S) (htd : 0 ≤ td ∧ td ≤ 20) (hx : -2147483648 ≤ x ∧ x ≤ 2147483647) (h1 : okD S td x → ∀ h', KM S I len pg im tr (td + 1) h' → FrM h h' → Q (dressA S x) h') (h0 : ¬ okD S td x → Q (dressR x) h) : CJ 6 kX7_dress [.ref 9, vi x] h Q := by
  have hM := hK.1
  obtain ⟨⟨hn, hw, hh, hs⟩, mG, mN, mE⟩ := id hM
  have hnn := wf_n hW
  have ht := hK.2.2.2.2.1
  unfold okD at h1
  unfold okD dressR at h0
  have hM2 : RM S (hset h 9 10 (td + 1)) := RM_eq hM rfl rfl rfl rfl (fun c k q => hset_nc (by omega))
  have hK2 : KM S I len pg im tr (td + 1) (hset h 9 10 (td + 1)) := by
    have e : ∀ c k, ¬ (c = 9 ∧ k = 10) → hset h 9 10 (td + 1) c k = h c k := fun c k q => by unfold hset; exact if_neg q
    have hK3 : KM S I len pg im tr td (fun c k => if c = 9 ∧ k = 10 then h c k else hset h 9 10 (td + 1) c k) := KM_eq hK (fun c k _ => by
      by_cases q : c = 9 ∧ k = 10
      · exact if_pos q
      · exact (if_neg q).trans (e c k q))
    obtain ⟨k1, k2, k3, k4, k5, k6⟩ := hK3
    exact ⟨hM2, k2, k3, k4, hset_eq _ _ _ _, k6⟩
  refine cj_of (lo := [some (.ref 9), some (vi x)]) mok_X7_dress (fun _ => rfl) (fun _ => Nat.le_of_ble_eq_true rfl) ?_
  refine xj_iload_n (pc2 := 1) dX7_dress_0 rfl rfl rfl ?_
  refine xj_iconst (pc2 := 2) dX7_dress_1 rfl ?_
  refine xj_iconst (pc2 := 3) dX7_dress_2 rfl ?_
  refine xj_S3I (pc2 := 6) (d2 := 0) mok_X7_within ml_X7_77 sta_yX7_within dX7_dress_3 rfl rfl (by decide) (by decide) (Nat.le_of_ble_eq_true rfl) (fun _ => rfl) ?_
  refine c_X7_within (by omega) (by omega) (by omega) ?_ ?_
  · -- X7_within = 1
    intro c_3
    refine xj_if_ne (pc2 := 9) (tgt := 23) dX7_dress_6 rfl rfl (by omega) (fun c_6 => ?_) (fun c_6 => absurd c_6 (by decide))
    refine xj_aload_n (pc2 := 24) dX7_dress_23 rfl rfl rfl ?_
    refine xj_getI (pc2 := 27) (kz := 1) fok_X7_113 dX7_dress_24 rfl rfl rfl (by decide) rfl (by first | assumption | rfl) ?_
    refine xj_if_eq (pc2 := 30) (tgt := 39) dX7_dress_27 rfl rfl (by omega) (fun c_27 => ?_) (fun c_27 => ?_)
    · -- 39
      refine xj_bipush (pc2 := 41) dX7_dress_39 rfl (by decide) ?_
      refine xj_iret dX7_dress_41 rfl ?_
      exact q_eq (by (repeat' split) <;> omega) (h0 (by omega))
    · -- 30
      refine xj_aload_n (pc2 := 31) dX7_dress_30 rfl rfl rfl ?_
      refine xj_getI (pc2 := 34) (kz := 10) fok_X7_215 dX7_dress_31 rfl rfl rfl (by decide) rfl (by first | assumption | rfl) ?_
      refine xj_bipush (pc2 := 36) dX7_dress_34 rfl (by decide) ?_
      refine xj_cmp_ne (pc2 := 39) (tgt := 42) dX7_dress_36 rfl rfl (by omega) (by omega) (fun c_36 => ?_) (fun c_36 => ?_)
      · -- 42
        refine xj_aload_n (pc2 := 43) dX7_dress_42 rfl rfl rfl ?_
        refine xj_dup (pc2 := 44) dX7_dress_43 rfl rfl ?_
        refine xj_getI (pc2 := 47) (kz := 10) fok_X7_215 dX7_dress_44 rfl rfl rfl (by decide) rfl (by first | assumption | rfl) ?_
        refine xj_iconst (pc2 := 48) dX7_dress_47 rfl ?_
        refine xj_iadd (pc2 := 49) dX7_dress_48 rfl ?_
        refine xj_putI (pc2 := 52) (kz := 10) fok_X7_215 dX7_dress_49 rfl rfl rfl rfl rfl ?_
        refine xj_aload_n (pc2 := 53) dX7_dress_52 rfl rfl rfl ?_
        refine xj_iload_n (pc2 := 54) dX7_dress_53 rfl rfl rfl ?_
        refine xj_V1I (pc2 := 57) (d2 := 5) mok_X7_dressNow ml_X7_218 ima_yX7_dressNow sel_yX7_dressNow rfl rfl dX7_dress_54 rfl rfl (by decide) (by decide) (Nat.le_of_ble_eq_true rfl) (fun _ => rfl) ?_
        refine c_X7_dressNow hM2 hW (by omega) ?_
        intro h3 hf3
        refine xj_iret dX7_dress_57 rfl ?_
        exact h1 (by omega) _ (KM_eq hK2 (fun c k q => hf3 c k (by unfold LM at q; omega) (by unfold LM at q; omega))) (fun c k q1 q2 => by rw [hf3 c k (by omega) (by omega), hset_nc q2])
      · -- 39
        refine xj_bipush (pc2 := 41) dX7_dress_39 rfl (by decide) ?_
        refine xj_iret dX7_dress_41 rfl ?_
        exact q_eq (by (repeat' split) <;> omega) (h0 (by omega))
  · -- X7_within = 0
    intro c_3
    refine xj_if_ne (pc2 := 9) (tgt := 23) dX7_dress_6 rfl rfl (by omega) (fun c_6 => absurd c_6 (by decide)) (fun c_6 => ?_)
    refine xj_iload_n (pc2 := 10) dX7_dress_9 rfl rfl rfl ?_
    refine xj_bipush (pc2 := 12) dX7_dress_10 rfl (by decide) ?_
    refine xj_bipush (pc2 := 14) dX7_dress_12 rfl (by decide) ?_
    refine xj_S3I (pc2 := 17) (d2 := 0) mok_X7_within ml_X7_77 sta_yX7_within dX7_dress_14 rfl rfl (by decide) (by decide) (Nat.le_of_ble_eq_true rfl) (fun _ => rfl) ?_
    refine c_X7_within (by omega) (by omega) (by omega) ?_ ?_
    · -- X7_within = 1
      intro c_14
      refine xj_if_ne (pc2 := 20) (tgt := 23) dX7_dress_17 rfl rfl (by omega) (fun c_17 => ?_) (fun c_17 => absurd c_17 (by decide))
      refine xj_aload_n (pc2 := 24) dX7_dress_23 rfl rfl rfl ?_
      refine xj_getI (pc2 := 27) (kz := 1) fok_X7_113 dX7_dress_24 rfl rfl rfl (by decide) rfl (by first | assumption | rfl) ?_
      refine xj_if_eq (pc2 := 30) (tgt := 39) dX7_dress_27 rfl rfl (by omega) (fun c_27 => ?_) (fun c_27 => ?_)
      · -- 39
        refine xj_bipush (pc2 := 41) dX7_dress_39 rfl (by decide) ?_
        refine xj_iret dX7_dress_41 rfl ?_
        exact q_eq (by (repeat' split) <;> omega) (h0 (by omega))
      · -- 30
        refine xj_aload_n (pc2 := 31) dX7_dress_30 rfl rfl rfl ?_
        refine xj_getI (pc2 := 34) (kz := 10) fok_X7_215 dX7_dress_31 rfl rfl rfl (by decide) rfl (by first | assumption | rfl) ?_
        refine xj_bipush (pc2 := 36) dX7_dress_34 rfl (by decide) ?_
        refine xj_cmp_ne (pc2 := 39) (tgt := 42) dX7_dress_36 rfl rfl (by omega) (by omega) (fun c_36 => ?_) (fun c_36 => ?_)
        · -- 42
          refine xj_aload_n (pc2 := 43) dX7_dress_42 rfl rfl rfl ?_
          refine xj_dup (pc2 := 44) dX7_dress_43 rfl rfl ?_
          refine xj_getI (pc2 := 47) (kz := 10) fok_X7_215 dX7_dress_44 rfl rfl rfl (by decide) rfl (by first | assumption | rfl) ?_
          refine xj_iconst (pc2 := 48) dX7_dress_47 rfl ?_
          refine xj_iadd (pc2 := 49) dX7_dress_48 rfl ?_
          refine xj_putI (pc2 := 52) (kz := 10) fok_X7_215 dX7_dress_49 rfl rfl rfl rfl rfl ?_
          refine xj_aload_n (pc2 := 53) dX7_dress_52 rfl rfl rfl ?_
          refine xj_iload_n (pc2 := 54) dX7_dress_53 rfl rfl rfl ?_
          refine xj_V1I (pc2 := 57) (d2 := 5) mok_X7_dressNow ml_X7_218 ima_yX7_dressNow sel_yX7_dressNow rfl rfl dX7_dress_54 rfl rfl (by decide) (by decide) (Nat.le_of_ble_eq_true rfl) (fun _ => rfl) ?_
          refine c_X7_dressNow hM2 hW (by omega) ?_
          intro h3 hf3
          refine xj_iret dX7_dress_57 rfl ?_
          exact h1 (by omega) _ (KM_eq hK2 (fun c k q => hf3 c k (by unfold LM at q; omega) (by unfold LM at q; omega))) (fun c k q1 q2 => by rw [hf3 c k (by omega) (by omega), hset_nc q2])
        · -- 39
          refine xj_bipush (pc2 := 41) dX7_dress_39 rfl (by decide) ?_
          refine xj_iret dX7_dress_41 rfl ?_
          exact q_eq (by (repeat' split) <;> omega) (h0 (by omega))
    · -- X7_within = 0
      intro c_14
      refine xj_if_ne (pc2 := 20) (tgt := 23) dX7_dress_17 rfl rfl (by omega) (fun c_17 => absurd c_17 (by decide)) (fun c_17 => ?_)
      refine xj_bipush (pc2 := 22) dX7_dress_20 rfl (by decide) ?_
      refine xj_iret dX7_dress_22 rfl ?_
      exact q_eq (by (repeat' split) <;> omega) (h0 (by omega))
