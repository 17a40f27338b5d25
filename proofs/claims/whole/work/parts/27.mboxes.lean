/-! the model: boxes -/
theorem c_X7_boxesAhead {S : Sh} {r : Rw} {g : Nat} {h : Hp} {Q : Int → Hp → Prop} (hW : WF S) (hr : RWr (nG S) r h) (hb : ∀ i, i < nG S → r i ≤ 6) (hg : g ≤ nG S) (hq : Q (mxA g r : Nat) h) : CJ 0 kX7_boxesAhead [.ref 9, vi g] h Q := by
  have hnn := wf_n hW
  have hng := nG_eq hW
  refine cj_of (lo := [some (.ref 9), some (vi g), none, none]) mok_X7_boxesAhead (fun _ => rfl) (fun _ => Nat.le_of_ble_eq_true rfl) ?_
  refine xj_iconst (pc2 := 1) dX7_boxesAhead_0 rfl ?_
  refine xj_istore2 (pc2 := 2) dX7_boxesAhead_1 rfl rfl (by decide) rfl ?_
  refine xj_iconst (pc2 := 3) dX7_boxesAhead_2 rfl ?_
  refine xj_istore3 (pc2 := 4) dX7_boxesAhead_3 rfl rfl (by decide) rfl ?_
  refine down (P := fun j => (mxA j r ≤ 7) → XJ none 0 kX7_boxesAhead h 4 [some (.ref 9), some (vi g), some (vi (mxA j r : Nat)), some (vi j)] [] Q) (n := g) ?_ ?_ (show (0 : Nat) ≤ 7 by decide)
  · intro hm
    refine xj_iload_n (pc2 := 5) dX7_boxesAhead_4 rfl rfl rfl ?_
    refine xj_iload_n (pc2 := 6) dX7_boxesAhead_5 rfl rfl rfl ?_
    refine xj_cmp_ge (pc2 := 9) (tgt := 40) dX7_boxesAhead_6 rfl rfl (by omega) (by omega) (fun c_6 => ?_) (fun c_6 => by exfalso; omega)
    refine xj_iload_n (pc2 := 41) dX7_boxesAhead_40 rfl rfl rfl ?_
    refine xj_iret dX7_boxesAhead_41 rfl ?_
    exact hq
  · intro j hj ih hm
    have hrj : h 165 (j : Int) = (r j : Int) := hr j (by omega)
    have hbj := hb j (by omega)
    have es : mxA (j + 1) r = max (mxA j r) (r j + 1) := rfl
    rw [es] at ih
    have ih := ih (by omega)
    refine xj_iload_n (pc2 := 5) dX7_boxesAhead_4 rfl rfl rfl ?_
    refine xj_iload_n (pc2 := 6) dX7_boxesAhead_5 rfl rfl rfl ?_
    refine xj_cmp_ge (pc2 := 9) (tgt := 40) dX7_boxesAhead_6 rfl rfl (by omega) (by omega) (fun c_6 => by exfalso; omega) (fun c_6 => ?_)
    refine xj_aload_n (pc2 := 10) dX7_boxesAhead_9 rfl rfl rfl ?_
    refine xj_getRn (pc2 := 13) (c2 := 165) fok_X7_41 dX7_boxesAhead_10 rfl rfl rfl rfl rfl ?_
    refine xj_iload_n (pc2 := 14) dX7_boxesAhead_13 rfl rfl rfl ?_
    refine xj_iald (pc2 := 15) dX7_boxesAhead_14 rfl rfl (by omega) (by omega) hrj ?_
    refine xj_iconst (pc2 := 16) dX7_boxesAhead_15 rfl ?_
    refine xj_iadd (pc2 := 17) dX7_boxesAhead_16 rfl ?_
    refine xj_iload_n (pc2 := 18) dX7_boxesAhead_17 rfl rfl rfl ?_
    refine xj_cmp_le (pc2 := 21) (tgt := 32) dX7_boxesAhead_18 rfl rfl (by omega) (by omega) (fun c_18 => ?_) (fun c_18 => ?_)
    · -- 32
      refine xj_iload_n (pc2 := 33) dX7_boxesAhead_32 rfl rfl rfl ?_
      refine xj_istore2 (pc2 := 34) dX7_boxesAhead_33 rfl rfl (by decide) rfl ?_
      refine xj_iinc3 (pc2 := 37) dX7_boxesAhead_34 rfl (by decide) rfl ?_
      refine xj_goto (tgt := 4) dX7_boxesAhead_37 rfl ?_
      first
      | (rw [show max (mxA j r) (r j + 1) = mxA j r by omega] at ih; exact ih)
      | (rw [show max (mxA j r) (r j + 1) = r j + 1 by omega] at ih; exact ih)
    · -- 21
      refine xj_aload_n (pc2 := 22) dX7_boxesAhead_21 rfl rfl rfl ?_
      refine xj_getRn (pc2 := 25) (c2 := 165) fok_X7_41 dX7_boxesAhead_22 rfl rfl rfl rfl rfl ?_
      refine xj_iload_n (pc2 := 26) dX7_boxesAhead_25 rfl rfl rfl ?_
      refine xj_iald (pc2 := 27) dX7_boxesAhead_26 rfl rfl (by omega) (by omega) hrj ?_
      refine xj_iconst (pc2 := 28) dX7_boxesAhead_27 rfl ?_
      refine xj_iadd (pc2 := 29) dX7_boxesAhead_28 rfl ?_
      refine xj_goto (tgt := 33) dX7_boxesAhead_29 rfl ?_
      refine xj_istore2 (pc2 := 34) dX7_boxesAhead_33 rfl rfl (by decide) rfl ?_
      refine xj_iinc3 (pc2 := 37) dX7_boxesAhead_34 rfl (by decide) rfl ?_
      refine xj_goto (tgt := 4) dX7_boxesAhead_37 rfl ?_
      first
      | (rw [show max (mxA j r) (r j + 1) = mxA j r by omega] at ih; exact ih)
      | (rw [show max (mxA j r) (r j + 1) = r j + 1 by omega] at ih; exact ih)
theorem c_X7_areQuiet {S : Sh} {r : Rw} {h : Hp} {Q : Int → Hp → Prop} (hM : RM S h) (hW : WF S) (hr : RWr (nG S) r h) (hb : ∀ i, i < nG S → r i ≤ 6) (h1 : qtR S r (nG S) = true → Q 1 h) (h0 : ¬ qtR S r (nG S) = true → Q 0 h) : CJ 3 kX7_areQuiet [.ref 9] h Q := by
  obtain ⟨⟨hn, hw, hh, hs⟩, mG, mN, mE⟩ := id hM
  have hnn := wf_n hW
  have hng := nG_eq hW
  refine cj_of (lo := [some (.ref 9), none, none, none]) mok_X7_areQuiet (fun _ => rfl) (fun _ => Nat.le_of_ble_eq_true rfl) ?_
  refine xj_iconst (pc2 := 1) dX7_areQuiet_0 rfl ?_
  refine xj_istore1 (pc2 := 2) dX7_areQuiet_1 rfl rfl (by decide) rfl ?_
  refine xj_iconst (pc2 := 3) dX7_areQuiet_2 rfl ?_
  refine xj_istore2 (pc2 := 4) dX7_areQuiet_3 rfl rfl (by decide) rfl ?_
  refine down (P := fun j => XJ none 3 kX7_areQuiet h 4 [some (.ref 9), some (vi (bl (qtR S r j))), some (vi j), none] [] Q) (n := nG S) ?_ ?_
  · have hbr := bl_rg (qtR S r (nG S))
    have hres : Q (bl (qtR S r (nG S))) h := by
      cases e : qtR S r (nG S) with
      | true => exact h1 e
      | false => exact h0 (by rw [e]; decide)
    refine xj_iload_n (pc2 := 5) dX7_areQuiet_4 rfl rfl rfl ?_
    refine xj_aload_n (pc2 := 6) dX7_areQuiet_5 rfl rfl rfl ?_
    refine xj_getI (pc2 := 9) (kz := 1) fok_X7_113 dX7_areQuiet_6 rfl rfl rfl (by decide) rfl (by first | assumption | rfl) ?_
    refine xj_cmp_ge (pc2 := 12) (tgt := 66) dX7_areQuiet_9 rfl rfl (by omega) (by omega) (fun c_9 => ?_) (fun c_9 => by exfalso; omega)
    refine xj_iload_n (pc2 := 67) dX7_areQuiet_66 rfl rfl rfl ?_
    refine xj_zret dX7_areQuiet_67 rfl (by omega) ?_
    exact hres
  · intro j hj ih
    have hbj := hb j hj
    have hrj : h 165 (j : Int) = (r j : Int) := hr j (by omega)
    have hbr0 := bl_rg (qtR S r j)
    refine xj_iload_n (pc2 := 5) dX7_areQuiet_4 rfl rfl rfl ?_
    refine xj_aload_n (pc2 := 6) dX7_areQuiet_5 rfl rfl rfl ?_
    refine xj_getI (pc2 := 9) (kz := 1) fok_X7_113 dX7_areQuiet_6 rfl rfl rfl (by decide) rfl (by first | assumption | rfl) ?_
    refine xj_cmp_ge (pc2 := 12) (tgt := 66) dX7_areQuiet_9 rfl rfl (by omega) (by omega) (fun c_9 => by exfalso; omega) (fun c_9 => ?_)
    refine xj_iconst (pc2 := 13) dX7_areQuiet_12 rfl ?_
    refine xj_istore3 (pc2 := 14) dX7_areQuiet_13 rfl rfl (by decide) rfl ?_
    rw [show qtR S r j = (qtR S r j && allb (qtP S r j) 0) by rw [show allb (qtP S r j) 0 = true from rfl, Bool.and_true]]
    refine down (P := fun i => XJ none 3 kX7_areQuiet h 14 [some (.ref 9), some (vi (bl (qtR S r j && allb (qtP S r j) i))), some (vi j), some (vi i)] [] Q) (n := j) ?_ ?_
    · have hbr := bl_rg (qtR S r j && allb (qtP S r j) j)
      have e1 : qtR S r (j + 1) = (qtR S r j && allb (qtP S r j) j) := rfl
      rw [e1] at ih
      refine xj_iload_n (pc2 := 15) dX7_areQuiet_14 rfl rfl rfl ?_
      refine xj_iload_n (pc2 := 16) dX7_areQuiet_15 rfl rfl rfl ?_
      refine xj_cmp_ge (pc2 := 19) (tgt := 60) dX7_areQuiet_16 rfl rfl (by omega) (by omega) (fun c_16 => ?_) (fun c_16 => by exfalso; omega)
      refine xj_iinc2 (pc2 := 63) dX7_areQuiet_60 rfl (by decide) rfl ?_
      refine xj_goto (tgt := 4) dX7_areQuiet_63 rfl ?_
      exact xj_sub (by repeat (first | exact subL_nil | apply subL_none | apply subL_some rfl)) ih
    · intro i hi ihi
      have hbi := hb i (by omega)
      have hri : h 165 (i : Int) = (r i : Int) := hr i (by omega)
      have hbr := bl_rg (qtR S r j && allb (qtP S r j) i)
      have e1 : (qtR S r j && allb (qtP S r j) (i + 1)) = ((qtR S r j && allb (qtP S r j) i) && qtP S r j i) := by
        show (qtR S r j && (allb (qtP S r j) i && qtP S r j i)) = _
        rw [Bool.and_assoc]
      rw [e1] at ihi
      refine xj_iload_n (pc2 := 15) dX7_areQuiet_14 rfl rfl rfl ?_
      refine xj_iload_n (pc2 := 16) dX7_areQuiet_15 rfl rfl rfl ?_
      refine xj_cmp_ge (pc2 := 19) (tgt := 60) dX7_areQuiet_16 rfl rfl (by omega) (by omega) (fun c_16 => by exfalso; omega) (fun c_16 => ?_)
      refine xj_iload_n (pc2 := 20) dX7_areQuiet_19 rfl rfl rfl ?_
      refine xj_if_eq (pc2 := 23) (tgt := 52) dX7_areQuiet_20 rfl rfl (by omega) (fun c_20 => ?_) (fun c_20 => ?_)
      · -- 52
        refine xj_iconst (pc2 := 53) dX7_areQuiet_52 rfl ?_
        refine xj_istore1 (pc2 := 54) dX7_areQuiet_53 rfl rfl (by decide) rfl ?_
        refine xj_iinc3 (pc2 := 57) dX7_areQuiet_54 rfl (by decide) rfl ?_
        refine xj_goto (tgt := 14) dX7_areQuiet_57 rfl ?_
        first
        | (rw [bl_z c_20, Bool.false_and] at ihi; exact ihi)
        | (rw [bl_nz c_20, Bool.true_and, show qtP S r j i = true by unfold qtP; rw [show decide (r j = r i) = false from decide_eq_false (by omega)]; rfl] at ihi; exact ihi)
        | (rw [bl_nz c_20, Bool.true_and, show qtP S r j i = true by unfold qtP; rw [show quarP S j i = false from decide_eq_false c_42, Bool.and_false]; rfl] at ihi; exact ihi)
        | (rw [bl_nz c_20, Bool.true_and, show qtP S r j i = false by unfold qtP; rw [show quarP S j i = true from decide_eq_true c_42, show decide (r j = r i) = true from decide_eq_true (by omega)]; rfl] at ihi; exact ihi)
      · -- 23
        refine xj_aload_n (pc2 := 24) dX7_areQuiet_23 rfl rfl rfl ?_
        refine xj_getRn (pc2 := 27) (c2 := 165) fok_X7_41 dX7_areQuiet_24 rfl rfl rfl rfl rfl ?_
        refine xj_iload_n (pc2 := 28) dX7_areQuiet_27 rfl rfl rfl ?_
        refine xj_iald (pc2 := 29) dX7_areQuiet_28 rfl rfl (by omega) (by omega) hrj ?_
        refine xj_aload_n (pc2 := 30) dX7_areQuiet_29 rfl rfl rfl ?_
        refine xj_getRn (pc2 := 33) (c2 := 165) fok_X7_41 dX7_areQuiet_30 rfl rfl rfl rfl rfl ?_
        refine xj_iload_n (pc2 := 34) dX7_areQuiet_33 rfl rfl rfl ?_
        refine xj_iald (pc2 := 35) dX7_areQuiet_34 rfl rfl (by omega) (by omega) hri ?_
        refine xj_cmp_ne (pc2 := 38) (tgt := 48) dX7_areQuiet_35 rfl rfl (by omega) (by omega) (fun c_35 => ?_) (fun c_35 => ?_)
        · -- 48
          refine xj_iconst (pc2 := 49) dX7_areQuiet_48 rfl ?_
          refine xj_goto (tgt := 53) dX7_areQuiet_49 rfl ?_
          refine xj_istore1 (pc2 := 54) dX7_areQuiet_53 rfl rfl (by decide) rfl ?_
          refine xj_iinc3 (pc2 := 57) dX7_areQuiet_54 rfl (by decide) rfl ?_
          refine xj_goto (tgt := 14) dX7_areQuiet_57 rfl ?_
          first
          | (rw [bl_z c_20, Bool.false_and] at ihi; exact ihi)
          | (rw [bl_nz c_20, Bool.true_and, show qtP S r j i = true by unfold qtP; rw [show decide (r j = r i) = false from decide_eq_false (by omega)]; rfl] at ihi; exact ihi)
          | (rw [bl_nz c_20, Bool.true_and, show qtP S r j i = true by unfold qtP; rw [show quarP S j i = false from decide_eq_false c_42, Bool.and_false]; rfl] at ihi; exact ihi)
          | (rw [bl_nz c_20, Bool.true_and, show qtP S r j i = false by unfold qtP; rw [show quarP S j i = true from decide_eq_true c_42, show decide (r j = r i) = true from decide_eq_true (by omega)]; rfl] at ihi; exact ihi)
        · -- 38
          refine xj_aload_n (pc2 := 39) dX7_areQuiet_38 rfl rfl rfl ?_
          refine xj_iload_n (pc2 := 40) dX7_areQuiet_39 rfl rfl rfl ?_
          refine xj_iload_n (pc2 := 41) dX7_areQuiet_40 rfl rfl rfl ?_
          refine xj_iconst (pc2 := 42) dX7_areQuiet_41 rfl ?_
          refine xj_V3I (pc2 := 45) (d2 := 2) mok_X7_quarrel ml_X7_143 ima_yX7_quarrel sel_yX7_quarrel rfl rfl dX7_areQuiet_42 rfl rfl (by decide) (by decide) (Nat.le_of_ble_eq_true rfl) (fun _ => rfl) ?_
          refine c_X7_quarrel hM hW (by omega) (by omega) (by omega) ?_ ?_
          · -- X7_quarrel = 1
            intro c_42
            refine xj_if_ne (pc2 := 48) (tgt := 52) dX7_areQuiet_45 rfl rfl (by omega) (fun c_45 => ?_) (fun c_45 => absurd c_45 (by decide))
            refine xj_iconst (pc2 := 53) dX7_areQuiet_52 rfl ?_
            refine xj_istore1 (pc2 := 54) dX7_areQuiet_53 rfl rfl (by decide) rfl ?_
            refine xj_iinc3 (pc2 := 57) dX7_areQuiet_54 rfl (by decide) rfl ?_
            refine xj_goto (tgt := 14) dX7_areQuiet_57 rfl ?_
            first
            | (rw [bl_z c_20, Bool.false_and] at ihi; exact ihi)
            | (rw [bl_nz c_20, Bool.true_and, show qtP S r j i = true by unfold qtP; rw [show decide (r j = r i) = false from decide_eq_false (by omega)]; rfl] at ihi; exact ihi)
            | (rw [bl_nz c_20, Bool.true_and, show qtP S r j i = true by unfold qtP; rw [show quarP S j i = false from decide_eq_false c_42, Bool.and_false]; rfl] at ihi; exact ihi)
            | (rw [bl_nz c_20, Bool.true_and, show qtP S r j i = false by unfold qtP; rw [show quarP S j i = true from decide_eq_true c_42, show decide (r j = r i) = true from decide_eq_true (by omega)]; rfl] at ihi; exact ihi)
          · -- X7_quarrel = 0
            intro c_42
            refine xj_if_ne (pc2 := 48) (tgt := 52) dX7_areQuiet_45 rfl rfl (by omega) (fun c_45 => absurd c_45 (by decide)) (fun c_45 => ?_)
            refine xj_iconst (pc2 := 49) dX7_areQuiet_48 rfl ?_
            refine xj_goto (tgt := 53) dX7_areQuiet_49 rfl ?_
            refine xj_istore1 (pc2 := 54) dX7_areQuiet_53 rfl rfl (by decide) rfl ?_
            refine xj_iinc3 (pc2 := 57) dX7_areQuiet_54 rfl (by decide) rfl ?_
            refine xj_goto (tgt := 14) dX7_areQuiet_57 rfl ?_
            first
            | (rw [bl_z c_20, Bool.false_and] at ihi; exact ihi)
            | (rw [bl_nz c_20, Bool.true_and, show qtP S r j i = true by unfold qtP; rw [show decide (r j = r i) = false from decide_eq_false (by omega)]; rfl] at ihi; exact ihi)
            | (rw [bl_nz c_20, Bool.true_and, show qtP S r j i = true by unfold qtP; rw [show quarP S j i = false from decide_eq_false c_42, Bool.and_false]; rfl] at ihi; exact ihi)
            | (rw [bl_nz c_20, Bool.true_and, show qtP S r j i = false by unfold qtP; rw [show quarP S j i = true from decide_eq_true c_42, show decide (r j = r i) = true from decide_eq_true (by omega)]; rfl] at ihi; exact ihi)
theorem c_X7_nextBoxes {S : Sh} {r : Rw} {h : Hp} {Q : Int → Hp → Prop} (hM : RM S h) (hW : WF S) (hr : RWr (nG S) r h) (hb : ∀ i, i < nG S → r i ≤ mxA i r) (h1 : ∀ r', nx (nG S) mxA (nG S) r = some r' → ∀ h', RWr (nG S) r' h' → EX h h' 165 → Q 1 h') (h0 : nx (nG S) mxA (nG S) r = none → ∀ h', EX h h' 165 → Q 0 h') : CJ 1 kX7_nextBoxes [.ref 9] h Q := by
  obtain ⟨⟨hn, hw, hh, hs⟩, mG, mN, mE⟩ := id hM
  have hnn := wf_n hW
  have hng := nG_eq hW
  have hmx := mxA_le hb
  refine cj_of (lo := [some (.ref 9), none]) mok_X7_nextBoxes (fun _ => rfl) (fun _ => Nat.le_of_ble_eq_true rfl) ?_
  refine xj_aload_n (pc2 := 1) dX7_nextBoxes_0 rfl rfl rfl ?_
  refine xj_getI (pc2 := 4) (kz := 1) fok_X7_113 dX7_nextBoxes_1 rfl rfl rfl (by decide) rfl (by first | assumption | rfl) ?_
  refine xj_iconst (pc2 := 5) dX7_nextBoxes_4 rfl ?_
  refine xj_isub (pc2 := 6) dX7_nextBoxes_5 rfl ?_
  refine xj_istore1 (pc2 := 7) dX7_nextBoxes_6 rfl rfl (by decide) rfl ?_
  refine down (P := fun k => ∀ (g : Int) (h' : Hp), g = S 6 0 - 1 - k → EX h h' 165 → RWr (nG S) (zr (nG S) k r) h' → nx (nG S) mxA k r = none → XJ none 1 kX7_nextBoxes h' 7 [some (.ref 9), some (vi g)] [] Q) (n := nG S) ?_ ?_ _ h (by omega) EX_rf (fun i hi => by unfold zr; rw [if_neg (by omega)]; exact hr i hi) rfl
  · intro g h' hg hex hrw hnx
    refine xj_iload_n (pc2 := 8) dX7_nextBoxes_7 rfl rfl rfl ?_
    refine xj_if_lt (pc2 := 11) (tgt := 38) dX7_nextBoxes_8 rfl rfl (by omega) (fun c_8 => ?_) (fun c_8 => by exfalso; omega)
    refine xj_iload_n (pc2 := 39) dX7_nextBoxes_38 rfl rfl rfl ?_
    refine xj_if_ge (pc2 := 42) (tgt := 44) dX7_nextBoxes_39 rfl rfl (by omega) (fun c_39 => by exfalso; omega) (fun c_39 => ?_)
    refine xj_iconst (pc2 := 43) dX7_nextBoxes_42 rfl ?_
    refine xj_zret dX7_nextBoxes_43 rfl (by decide) ?_
    exact h0 hnx _ hex
  · intro k hk ih g h' hg hex hrw hnx
    obtain ⟨gn, hgn⟩ : ∃ gn : Nat, gn = nG S - (k + 1) := ⟨_, rfl⟩
    have hgk : g = (gn : Int) := by omega
    have hrow : h' 165 (gn : Int) = (r gn : Int) := by
      rw [hrw _ (by omega)]
      unfold zr
      rw [if_neg (by omega)]
    have hbk := hb gn (by omega)
    have hmk := hmx gn (by omega)
    have hzm : mxA gn (zr (nG S) k r) = mxA gn r := mxA_congr gn _ _ (fun i hi => by unfold zr; rw [if_neg (by omega)])
    have hzb : ∀ i, i < nG S → zr (nG S) k r i ≤ 6 := fun i hi => by
      have h1 := hb i hi
      have h2 := hmx i (by omega)
      unfold zr
      split <;> omega
    have enx : nx (nG S) mxA (k + 1) r = if r gn < mxA gn r then some (zr (nG S) k (ups r gn (r gn + 1))) else none := by
      rw [hgn]
      show (match nx (nG S) mxA k r with | some r' => some r' | none => _) = _
      rw [hnx]
    subst hgk
    refine xj_iload_n (pc2 := 8) dX7_nextBoxes_7 rfl rfl rfl ?_
    refine xj_if_lt (pc2 := 11) (tgt := 38) dX7_nextBoxes_8 rfl rfl (by omega) (fun c_8 => by exfalso; omega) (fun c_8 => ?_)
    refine xj_aload_n (pc2 := 12) dX7_nextBoxes_11 rfl rfl rfl ?_
    refine xj_getRn (pc2 := 15) (c2 := 165) fok_X7_41 dX7_nextBoxes_12 rfl rfl rfl rfl rfl ?_
    refine xj_iload_n (pc2 := 16) dX7_nextBoxes_15 rfl rfl rfl ?_
    refine xj_iald (pc2 := 17) dX7_nextBoxes_16 rfl rfl (by omega) (by omega) hrow ?_
    refine xj_aload_n (pc2 := 18) dX7_nextBoxes_17 rfl rfl rfl ?_
    refine xj_iload_n (pc2 := 19) dX7_nextBoxes_18 rfl rfl rfl ?_
    refine xj_V1I (pc2 := 22) (d2 := 0) mok_X7_boxesAhead ml_X7_221 ima_yX7_boxesAhead sel_yX7_boxesAhead rfl rfl dX7_nextBoxes_19 rfl rfl (by decide) (by decide) (Nat.le_of_ble_eq_true rfl) (fun _ => rfl) ?_
    refine c_X7_boxesAhead hW hrw hzb (by omega) ?_
    rw [hzm]
    refine xj_cmp_ne (pc2 := 25) (tgt := 38) dX7_nextBoxes_22 rfl rfl (by omega) (by omega) (fun c_22 => ?_) (fun c_22 => ?_)
    · -- 38
      refine xj_iload_n (pc2 := 39) dX7_nextBoxes_38 rfl rfl rfl ?_
      refine xj_if_ge (pc2 := 42) (tgt := 44) dX7_nextBoxes_39 rfl rfl (by omega) (fun c_39 => ?_) (fun c_39 => by exfalso; omega)
      refine xj_aload_n (pc2 := 45) dX7_nextBoxes_44 rfl rfl rfl ?_
      refine xj_getRn (pc2 := 48) (c2 := 165) fok_X7_41 dX7_nextBoxes_45 rfl rfl rfl rfl rfl ?_
      refine xj_iload_n (pc2 := 49) dX7_nextBoxes_48 rfl rfl rfl ?_
      refine xj_dup2 (pc2 := 50) dX7_nextBoxes_49 rfl rfl rfl ?_
      refine xj_iald (pc2 := 51) dX7_nextBoxes_50 rfl rfl (by omega) (by omega) hrow ?_
      refine xj_iconst (pc2 := 52) dX7_nextBoxes_51 rfl ?_
      refine xj_iadd (pc2 := 53) dX7_nextBoxes_52 rfl ?_
      refine xj_iast (pc2 := 54) dX7_nextBoxes_53 rfl rfl (by omega) (by omega) ?_
      refine xj_iconst (pc2 := 55) dX7_nextBoxes_54 rfl ?_
      refine xj_zret dX7_nextBoxes_55 rfl (by decide) ?_
      rw [if_pos (by omega)] at enx
      refine h1 _ (by have := nx_up enx (nG S - (k + 1)); rw [show k + 1 + (nG S - (k + 1)) = nG S by omega] at this; exact this) _ (fun i hi => ?_) (fun c k' q => by rw [hset_nc q]; exact hex c k' q)
      by_cases e : i = gn
      · rw [e, hset_eq]
        unfold zr ups
        rw [if_neg (by omega), if_pos rfl]
        omega
      · rw [hset_nk (by omega), hrw i hi]
        unfold zr ups
        by_cases e2 : nG S ≤ i + k
        · rw [if_pos ⟨e2, hi⟩, if_pos ⟨e2, hi⟩]
        · rw [if_neg (by omega), if_neg (by omega), if_neg e]
    · -- 25
      refine xj_aload_n (pc2 := 26) dX7_nextBoxes_25 rfl rfl rfl ?_
      refine xj_getRn (pc2 := 29) (c2 := 165) fok_X7_41 dX7_nextBoxes_26 rfl rfl rfl rfl rfl ?_
      refine xj_iload_n (pc2 := 30) dX7_nextBoxes_29 rfl rfl rfl ?_
      refine xj_iconst (pc2 := 31) dX7_nextBoxes_30 rfl ?_
      refine xj_iast (pc2 := 32) dX7_nextBoxes_31 rfl rfl (by omega) (by omega) ?_
      refine xj_iinc1 (pc2 := 35) dX7_nextBoxes_32 rfl (by decide) rfl ?_
      refine xj_goto (tgt := 7) dX7_nextBoxes_35 rfl ?_
      refine ih _ _ (by omega) (fun c k' q => by rw [hset_nc q]; exact hex c k' q) (fun i hi => ?_) (by rw [enx, if_neg (by omega)])
      by_cases e : i = gn
      · rw [e, hset_eq]
        unfold zr
        rw [if_pos (by omega)]
        rfl
      · rw [hset_nk (by omega), hrw i hi]
        unfold zr
        by_cases e2 : nG S ≤ i + k
        · rw [if_pos ⟨e2, hi⟩, if_pos ⟨by omega, hi⟩]
        · rw [if_neg (by omega), if_neg (by omega)]
theorem c_X7_boxesNow {S : Sh} {x : Int} {h : Hp} {Q : Int → Hp → Prop} (hM : RM S h) (hW : WF S) (hx : x = 0 ∨ (10 ≤ x ∧ x ≤ 15)) (hq : ∀ h', FR h h' → Q (if x = 0 then (bA S).1 else bestB S (x - 10)) h') : CJ 4 kX7_boxesNow [.ref 9, vi x] h Q := by
  have hnn := wf_n hW
  have hng := nG_eq hW
  have hb6 := bA_rg (S := S) (by omega)
  have hM0 := hM
  have key : ∀ (l : List Rw) (r : Rw) (a : Ab) (h' : Hp), Rk (nG S) mxA (nG S) r = l → l.foldl (fun a r => lfB S r a) a = bA S → FR h h' → RWr (nG S) r h' → (∀ i, i < nG S → r i ≤ mxA i r) → (∀ i : Nat, nG S ≤ i → i < 6 → h' 166 i = -1) → (a.1 ≤ 6 → ∀ i : Nat, i < nG S → h' 166 i = (a.2 i : Int)) → (0 ≤ a.1 ∧ a.1 ≤ 268435456) → XJ none 4 kX7_boxesNow h' 9 [some (.ref 9), some (vi x), some (vi a.1), some (vi 1)] [] Q := by
    intro l
    induction l with
    | nil => intro r a h' hl; rw [Rk_nx limB_P (nG S) r (Nat.le_refl _)] at hl; exact absurd hl (by simp)
    | cons r' tl ih =>
      intro r a h' hl hfo hf hr hb2 hbe hbk hrg
      have hM := RM_FR hM hf
      have hmx := mxA_le hb2
      have hmn := hmx (nG S) (Nat.le_refl _)
      have hb : ∀ i, i < nG S → r i ≤ 6 := fun i hi => by have h1 := hb2 i hi; have h2 := hmx i (by omega); omega
      have hl2 := hl
      rw [Rk_nx limB_P (nG S) r (Nat.le_refl _)] at hl2
      injection hl2 with e1 e2
      subst e1
      rw [List.foldl_cons] at hfo
      have hpos : (mxA (nG S) r : Int) < a.1 ∧ qtR S r (nG S) = true → lfB S r a = ((mxA (nG S) r : Int), r) := fun q => by unfold lfB; exact if_pos q
      have hneg : ¬ ((mxA (nG S) r : Int) < a.1 ∧ qtR S r (nG S) = true) → lfB S r a = a := fun q => by unfold lfB; exact if_neg q
      have next : ∀ (h4 : Hp), FR h h4 → RWr (nG S) r h4 → (∀ i : Nat, nG S ≤ i → i < 6 → h4 166 i = -1) → ((lfB S r a).1 ≤ 6 → ∀ i : Nat, i < nG S → h4 166 i = ((lfB S r a).2 i : Int)) → (0 ≤ (lfB S r a).1 ∧ (lfB S r a).1 ≤ 268435456) → XJ none 4 kX7_boxesNow h4 46 [some (.ref 9), some (vi x), some (vi (lfB S r a).1), none] [] Q := by
        intro h4 hf hr hbe hbk hrg2
        have hM := RM_FR hM0 hf
        have onMore : ∀ r', nx (nG S) mxA (nG S) r = some r' → ∀ h5, RWr (nG S) r' h5 → EX h4 h5 165 → XJ none 4 kX7_boxesNow h5 9 [some (.ref 9), some (vi x), some (vi (lfB S r a).1), some (vi 1)] [] Q := by
          intro r' hnx h5 hr5 hex5
          rw [hnx] at e2
          refine ih r' (lfB S r a) h5 e2 hfo (FR_tr hf (fun c k q1 q2 => hex5 c k q1)) hr5 ?_ (fun i q1 q2 => by rw [hex5 166 _ (by decide)]; exact hbe i q1 q2) (fun q i hi => by rw [hex5 166 _ (by decide)]; exact hbk q i hi) hrg2
          intro i hi
          have hmem : r' ∈ Rk (nG S) mxA (nG S) r' := by rw [Rk_nx limB_P (nG S) r' (Nat.le_refl _)]; exact List.mem_cons_self
          exact Rk_lim limB_P (nG S) r (Nat.le_refl _) (fun i hi => hb2 i hi) r' (by rw [hl, ← e2]; exact List.mem_cons_of_mem _ hmem) i hi
        have onEnd : nx (nG S) mxA (nG S) r = none → ∀ h5, EX h4 h5 165 → XJ none 4 kX7_boxesNow h5 9 [some (.ref 9), some (vi x), some (vi (lfB S r a).1), some (vi 0)] [] Q := by
          intro hnx h5 hex5
          rw [hnx] at e2
          rw [← e2, List.foldl_nil] at hfo
          rw [hfo] at hbk hrg2 ⊢
          have hf5 : FR h h5 := FR_tr hf (fun c k q1 q2 => hex5 c k q1)
          have hbx : 10 ≤ x → h5 166 (x - 10) = bestB S (x - 10) := by
            intro q
            rw [hex5 166 _ (by decide)]
            unfold bestB
            by_cases q2 : x - 10 < S 6 0
            · have := hbk hb6 (x - 10).toNat (by omega)
              rw [show (((x - 10).toNat : Nat) : Int) = x - 10 by omega] at this
              rw [if_pos q2, this]
            · have := hbe (x - 10).toNat (by omega) (by omega)
              rw [show (((x - 10).toNat : Nat) : Int) = x - 10 by omega] at this
              rw [if_neg q2, this]
          refine xj_iload_n (pc2 := 10) dX7_boxesNow_9 rfl rfl rfl ?_
          refine xj_if_eq (pc2 := 13) (tgt := 54) dX7_boxesNow_10 rfl rfl (by omega) (fun c_10 => ?_) (fun c_10 => absurd c_10 (by decide))
          refine xj_iload_n (pc2 := 55) dX7_boxesNow_54 rfl rfl rfl ?_
          refine xj_if_ne (pc2 := 58) (tgt := 62) dX7_boxesNow_55 rfl rfl (by omega) (fun c_55 => ?_) (fun c_55 => ?_)
          · -- 62
            refine xj_aload_n (pc2 := 63) dX7_boxesNow_62 rfl rfl rfl ?_
            refine xj_getRn (pc2 := 66) (c2 := 166) fok_X7_44 dX7_boxesNow_63 rfl rfl rfl rfl rfl ?_
            refine xj_iload_n (pc2 := 67) dX7_boxesNow_66 rfl rfl rfl ?_
            refine xj_bipush (pc2 := 69) dX7_boxesNow_67 rfl (by decide) ?_
            refine xj_isub (pc2 := 70) dX7_boxesNow_69 rfl ?_
            refine xj_iald (pc2 := 71) dX7_boxesNow_70 rfl rfl (by omega) (by omega) (hbx (by omega)) ?_
            refine xj_iret dX7_boxesNow_71 rfl ?_
            first
            | (refine q_eq ?_ (hq _ hf5); rw [if_pos c_55])
            | (refine q_eq ?_ (hq _ hf5); rw [if_neg c_55])
          · -- 58
            refine xj_iload_n (pc2 := 59) dX7_boxesNow_58 rfl rfl rfl ?_
            refine xj_goto (tgt := 71) dX7_boxesNow_59 rfl ?_
            refine xj_iret dX7_boxesNow_71 rfl ?_
            first
            | (refine q_eq ?_ (hq _ hf5); rw [if_pos c_55])
            | (refine q_eq ?_ (hq _ hf5); rw [if_neg c_55])
        refine xj_aload_n (pc2 := 47) dX7_boxesNow_46 rfl rfl rfl ?_
        refine xj_V0I (pc2 := 50) (d2 := 1) mok_X7_nextBoxes ml_X7_227 ima_yX7_nextBoxes sel_yX7_nextBoxes rfl rfl dX7_boxesNow_47 rfl rfl (by decide) (by decide) (Nat.le_of_ble_eq_true rfl) (fun _ => rfl) ?_
        refine c_X7_nextBoxes hM hW hr hb2 ?_ ?_
        · -- X7_nextBoxes = 1
          intro c_47
          intro hnx h5 hr5 hex5
          refine xj_istore3 (pc2 := 51) dX7_boxesNow_50 rfl rfl (by decide) rfl ?_
          refine xj_goto (tgt := 9) dX7_boxesNow_51 rfl ?_
          first
          | exact xj_sub (by repeat (first | exact subL_nil | apply subL_none | apply subL_some rfl)) (onMore _ hnx _ hr5 hex5)
          | exact xj_sub (by repeat (first | exact subL_nil | apply subL_none | apply subL_some rfl)) (onEnd c_47 _ hex5)
        · -- X7_nextBoxes = 0
          intro c_47
          intro h5 hex5
          refine xj_istore3 (pc2 := 51) dX7_boxesNow_50 rfl rfl (by decide) rfl ?_
          refine xj_goto (tgt := 9) dX7_boxesNow_51 rfl ?_
          first
          | exact xj_sub (by repeat (first | exact subL_nil | apply subL_none | apply subL_some rfl)) (onMore _ hnx _ hr5 hex5)
          | exact xj_sub (by repeat (first | exact subL_nil | apply subL_none | apply subL_some rfl)) (onEnd c_47 _ hex5)
      have cb : S 6 0 = ((nG S : Nat) : Int) := hng.symm
      refine xj_iload_n (pc2 := 10) dX7_boxesNow_9 rfl rfl rfl ?_
      refine xj_if_eq (pc2 := 13) (tgt := 54) dX7_boxesNow_10 rfl rfl (by omega) (fun c_10 => absurd c_10 (by decide)) (fun c_10 => ?_)
      refine xj_aload_n (pc2 := 14) dX7_boxesNow_13 rfl rfl rfl ?_
      refine xj_aload_n (pc2 := 15) dX7_boxesNow_14 rfl rfl rfl ?_
      refine xj_getI (pc2 := 18) (kz := 1) fok_X7_113 dX7_boxesNow_15 rfl rfl rfl (by decide) rfl (hM.1.1.trans cb) ?_
      refine xj_V1I (pc2 := 21) (d2 := 0) mok_X7_boxesAhead ml_X7_221 ima_yX7_boxesAhead sel_yX7_boxesAhead rfl rfl dX7_boxesNow_18 rfl rfl (by decide) (by decide) (Nat.le_of_ble_eq_true rfl) (fun _ => rfl) ?_
      refine c_X7_boxesAhead hW hr hb (by omega) ?_
      refine xj_iload_n (pc2 := 22) dX7_boxesNow_21 rfl rfl rfl ?_
      refine xj_cmp_ge (pc2 := 25) (tgt := 46) dX7_boxesNow_22 rfl rfl (by omega) (by omega) (fun c_22 => ?_) (fun c_22 => ?_)
      · -- 46
        first
        | (have ep := hpos ⟨by omega, c_26⟩
           rw [ep] at next
           refine xj_sub (by repeat (first | exact subL_nil | apply subL_none | apply subL_some rfl)) (next h3 (FR_tr hf (fun c k q1 q2 => hf3 c k q2)) (RWr_ex hr hf3) (fun i q1 q2 => by rw [hk2 i q1]; exact hbe i q1 q2) (fun _ i hi => by rw [hk1 i hi, Int.sub_zero]) ⟨by show (0 : Int) ≤ (mxA (nG S) r : Nat); omega, by show ((mxA (nG S) r : Nat) : Int) ≤ _; omega⟩))
        | (have ep := hneg (fun q => by first | exact c_26 q.2 | (have := q.1; omega))
           rw [ep] at next
           refine xj_sub (by repeat (first | exact subL_nil | apply subL_none | apply subL_some rfl)) (next _ hf hr hbe hbk hrg))
      · -- 25
        refine xj_aload_n (pc2 := 26) dX7_boxesNow_25 rfl rfl rfl ?_
        refine xj_V0I (pc2 := 29) (d2 := 3) mok_X7_areQuiet ml_X7_224 ima_yX7_areQuiet sel_yX7_areQuiet rfl rfl dX7_boxesNow_26 rfl rfl (by decide) (by decide) (Nat.le_of_ble_eq_true rfl) (fun _ => rfl) ?_
        refine c_X7_areQuiet hM hW hr hb ?_ ?_
        · -- X7_areQuiet = 1
          intro c_26
          refine xj_if_eq (pc2 := 32) (tgt := 46) dX7_boxesNow_29 rfl rfl (by omega) (fun c_29 => absurd c_29 (by decide)) (fun c_29 => ?_)
          refine xj_aload_n (pc2 := 33) dX7_boxesNow_32 rfl rfl rfl ?_
          refine xj_aload_n (pc2 := 34) dX7_boxesNow_33 rfl rfl rfl ?_
          refine xj_getI (pc2 := 37) (kz := 1) fok_X7_113 dX7_boxesNow_34 rfl rfl rfl (by decide) rfl (hM.1.1.trans cb) ?_
          refine xj_V1I (pc2 := 40) (d2 := 0) mok_X7_boxesAhead ml_X7_221 ima_yX7_boxesAhead sel_yX7_boxesAhead rfl rfl dX7_boxesNow_37 rfl rfl (by decide) (by decide) (Nat.le_of_ble_eq_true rfl) (fun _ => rfl) ?_
          refine c_X7_boxesAhead hW hr hb (by omega) ?_
          refine xj_istore2 (pc2 := 41) dX7_boxesNow_40 rfl rfl (by decide) rfl ?_
          refine xj_aload_n (pc2 := 42) dX7_boxesNow_41 rfl rfl rfl ?_
          refine xj_iconst (pc2 := 43) dX7_boxesNow_42 rfl ?_
          refine xj_V1V (pc2 := 46) (d2 := 0) mok_X7_keepRow ml_X7_207 ima_yX7_keepRow sel_yX7_keepRow rfl rfl dX7_boxesNow_43 rfl rfl (by decide) (by decide) (Nat.le_of_ble_eq_true rfl) (fun _ => rfl) ?_
          refine c_X7_keepRow hM hW hr hb (by omega) ?_
          intro h3 hk1 hk2 hf3
          first
          | (have ep := hpos ⟨by omega, c_26⟩
             rw [ep] at next
             refine xj_sub (by repeat (first | exact subL_nil | apply subL_none | apply subL_some rfl)) (next h3 (FR_tr hf (fun c k q1 q2 => hf3 c k q2)) (RWr_ex hr hf3) (fun i q1 q2 => by rw [hk2 i q1]; exact hbe i q1 q2) (fun _ i hi => by rw [hk1 i hi, Int.sub_zero]) ⟨by show (0 : Int) ≤ (mxA (nG S) r : Nat); omega, by show ((mxA (nG S) r : Nat) : Int) ≤ _; omega⟩))
          | (have ep := hneg (fun q => by first | exact c_26 q.2 | (have := q.1; omega))
             rw [ep] at next
             refine xj_sub (by repeat (first | exact subL_nil | apply subL_none | apply subL_some rfl)) (next _ hf hr hbe hbk hrg))
        · -- X7_areQuiet = 0
          intro c_26
          refine xj_if_eq (pc2 := 32) (tgt := 46) dX7_boxesNow_29 rfl rfl (by omega) (fun c_29 => ?_) (fun c_29 => absurd c_29 (by decide))
          first
          | (have ep := hpos ⟨by omega, c_26⟩
             rw [ep] at next
             refine xj_sub (by repeat (first | exact subL_nil | apply subL_none | apply subL_some rfl)) (next h3 (FR_tr hf (fun c k q1 q2 => hf3 c k q2)) (RWr_ex hr hf3) (fun i q1 q2 => by rw [hk2 i q1]; exact hbe i q1 q2) (fun _ i hi => by rw [hk1 i hi, Int.sub_zero]) ⟨by show (0 : Int) ≤ (mxA (nG S) r : Nat); omega, by show ((mxA (nG S) r : Nat) : Int) ≤ _; omega⟩))
          | (have ep := hneg (fun q => by first | exact c_26 q.2 | (have := q.1; omega))
             rw [ep] at next
             refine xj_sub (by repeat (first | exact subL_nil | apply subL_none | apply subL_some rfl)) (next _ hf hr hbe hbk hrg))
  have hl0 := Rk_nx (n := nG S) limB_P (nG S) r0 (Nat.le_refl _)
  refine cj_of (lo := [some (.ref 9), some (vi x), none, none]) mok_X7_boxesNow (fun _ => rfl) (fun _ => Nat.le_of_ble_eq_true rfl) ?_
  refine xj_aload_n (pc2 := 1) dX7_boxesNow_0 rfl rfl rfl ?_
  refine xj_V0V (pc2 := 4) (d2 := 0) mok_X7_begin ml_X7_197 ima_yX7_begin sel_yX7_begin rfl rfl dX7_boxesNow_1 rfl rfl (by decide) (by decide) (Nat.le_of_ble_eq_true rfl) (fun _ => rfl) ?_
  refine c_X7_begin ?_
  intro h2 hbg hf2
  refine xj_ldc (pc2 := 6) (n := 268435456) dX7_boxesNow_4 rfl k_X7_200 rfl ?_
  refine xj_istore2 (pc2 := 7) dX7_boxesNow_6 rfl rfl (by decide) rfl ?_
  refine xj_iconst (pc2 := 8) dX7_boxesNow_7 rfl ?_
  refine xj_istore3 (pc2 := 9) dX7_boxesNow_8 rfl rfl (by decide) rfl ?_
  exact key _ r0 (268435456, r0) h2 hl0 (by rw [← hl0]; exact (bA_far (by omega) (by decide)).symm) hf2 (fun i hi => (hbg i (by omega)).1) (fun i hi => Nat.zero_le _) (fun i q1 q2 => (hbg i q2).2) (fun q => by exact absurd q (by decide)) (by decide)
theorem KM_FR {S I : Sh} {len : Int} {pg : Int → Int} {im tr td : Int} {h h' : Hp} (hK : KM S I len pg im tr td h) (hf : FR h h') : KM S I len pg im tr td h' := KM_eq hK (fun c k q => hf c k (by unfold LM at q; omega) (by unfold LM at q; omega))
theorem FrM_FR {h h' : Hp} (hf : FR h h') : FrM h h' := fun c k q1 q2 => hf c k (by omega) (by omega)
theorem c_X7_boxes {S I : Sh} {len x : Int} {pg : Int → Int} {im tr td : Int} {h : Hp} {Q : Int → Hp → Prop} (hK : KM S I len pg im tr td h) (hW : WF S) (hx : -2147483648 ≤ x ∧ x ≤ 2147483647) (hq : ∀ h', KM S I len pg im tr td h' → FrM h h' → Q (boxesZ S x) h') : CJ 5 kX7_boxes [.ref 9, vi x] h Q := by
  have hM := hK.1
  obtain ⟨⟨hn, hw, hh, hs⟩, mG, mN, mE⟩ := id hM
  have hnn := wf_n hW
  unfold boxesZ at hq
  refine cj_of (lo := [some (.ref 9), some (vi x)]) mok_X7_boxes (fun _ => rfl) (fun _ => Nat.le_of_ble_eq_true rfl) ?_
  refine xj_iload_n (pc2 := 1) dX7_boxes_0 rfl rfl rfl ?_
  refine xj_if_eq (pc2 := 4) (tgt := 18) dX7_boxes_1 rfl rfl (by omega) (fun c_1 => ?_) (fun c_1 => ?_)
  · -- 18
    refine xj_aload_n (pc2 := 19) dX7_boxes_18 rfl rfl rfl ?_
    refine xj_getI (pc2 := 22) (kz := 1) fok_X7_113 dX7_boxes_19 rfl rfl rfl (by decide) rfl (by first | assumption | rfl) ?_
    refine xj_if_ne (pc2 := 25) (tgt := 30) dX7_boxes_22 rfl rfl (by omega) (fun c_22 => ?_) (fun c_22 => ?_)
    · -- 30
      refine xj_aload_n (pc2 := 31) dX7_boxes_30 rfl rfl rfl ?_
      refine xj_iload_n (pc2 := 32) dX7_boxes_31 rfl rfl rfl ?_
      refine xj_V1I (pc2 := 35) (d2 := 4) mok_X7_boxesNow ml_X7_230 ima_yX7_boxesNow sel_yX7_boxesNow rfl rfl dX7_boxes_32 rfl rfl (by decide) (by decide) (Nat.le_of_ble_eq_true rfl) (fun _ => rfl) ?_
      refine c_X7_boxesNow hM hW (by omega) ?_
      intro h3 hf3
      refine xj_iret dX7_boxes_35 rfl ?_
      first
      | exact q_eq (by (repeat' split) <;> first | (exfalso; omega) | rfl | omega) (hq _ hK FrM_rf)
      | exact q_eq (by (repeat' split) <;> first | (exfalso; omega) | rfl | omega) (hq _ (KM_FR hK hf3) (FrM_FR hf3))
    · -- 25
      refine xj_bipush (pc2 := 27) dX7_boxes_25 rfl (by decide) ?_
      refine xj_goto (tgt := 35) dX7_boxes_27 rfl ?_
      refine xj_iret dX7_boxes_35 rfl ?_
      first
      | exact q_eq (by (repeat' split) <;> first | (exfalso; omega) | rfl | omega) (hq _ hK FrM_rf)
      | exact q_eq (by (repeat' split) <;> first | (exfalso; omega) | rfl | omega) (hq _ (KM_FR hK hf3) (FrM_FR hf3))
  · -- 4
    refine xj_iload_n (pc2 := 5) dX7_boxes_4 rfl rfl rfl ?_
    refine xj_bipush (pc2 := 7) dX7_boxes_5 rfl (by decide) ?_
    refine xj_bipush (pc2 := 9) dX7_boxes_7 rfl (by decide) ?_
    refine xj_S3I (pc2 := 12) (d2 := 0) mok_X7_within ml_X7_77 sta_yX7_within dX7_boxes_9 rfl rfl (by decide) (by decide) (Nat.le_of_ble_eq_true rfl) (fun _ => rfl) ?_
    refine c_X7_within (by omega) (by omega) (by omega) ?_ ?_
    · -- X7_within = 1
      intro c_9
      refine xj_if_ne (pc2 := 15) (tgt := 18) dX7_boxes_12 rfl rfl (by omega) (fun c_12 => ?_) (fun c_12 => absurd c_12 (by decide))
      refine xj_aload_n (pc2 := 19) dX7_boxes_18 rfl rfl rfl ?_
      refine xj_getI (pc2 := 22) (kz := 1) fok_X7_113 dX7_boxes_19 rfl rfl rfl (by decide) rfl (by first | assumption | rfl) ?_
      refine xj_if_ne (pc2 := 25) (tgt := 30) dX7_boxes_22 rfl rfl (by omega) (fun c_22 => ?_) (fun c_22 => ?_)
      · -- 30
        refine xj_aload_n (pc2 := 31) dX7_boxes_30 rfl rfl rfl ?_
        refine xj_iload_n (pc2 := 32) dX7_boxes_31 rfl rfl rfl ?_
        refine xj_V1I (pc2 := 35) (d2 := 4) mok_X7_boxesNow ml_X7_230 ima_yX7_boxesNow sel_yX7_boxesNow rfl rfl dX7_boxes_32 rfl rfl (by decide) (by decide) (Nat.le_of_ble_eq_true rfl) (fun _ => rfl) ?_
        refine c_X7_boxesNow hM hW (by omega) ?_
        intro h3 hf3
        refine xj_iret dX7_boxes_35 rfl ?_
        first
        | exact q_eq (by (repeat' split) <;> first | (exfalso; omega) | rfl | omega) (hq _ hK FrM_rf)
        | exact q_eq (by (repeat' split) <;> first | (exfalso; omega) | rfl | omega) (hq _ (KM_FR hK hf3) (FrM_FR hf3))
      · -- 25
        refine xj_bipush (pc2 := 27) dX7_boxes_25 rfl (by decide) ?_
        refine xj_goto (tgt := 35) dX7_boxes_27 rfl ?_
        refine xj_iret dX7_boxes_35 rfl ?_
        first
        | exact q_eq (by (repeat' split) <;> first | (exfalso; omega) | rfl | omega) (hq _ hK FrM_rf)
        | exact q_eq (by (repeat' split) <;> first | (exfalso; omega) | rfl | omega) (hq _ (KM_FR hK hf3) (FrM_FR hf3))
    · -- X7_within = 0
      intro c_9
      refine xj_if_ne (pc2 := 15) (tgt := 18) dX7_boxes_12 rfl rfl (by omega) (fun c_12 => absurd c_12 (by decide)) (fun c_12 => ?_)
      refine xj_bipush (pc2 := 17) dX7_boxes_15 rfl (by decide) ?_
      refine xj_iret dX7_boxes_17 rfl ?_
      first
      | exact q_eq (by (repeat' split) <;> first | (exfalso; omega) | rfl | omega) (hq _ hK FrM_rf)
      | exact q_eq (by (repeat' split) <;> first | (exfalso; omega) | rfl | omega) (hq _ (KM_FR hK hf3) (FrM_FR hf3))
