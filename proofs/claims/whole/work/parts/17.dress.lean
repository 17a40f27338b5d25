/-! DRESS of the class -/
def setZ (r : Rw) (w n : Nat) : Int := bsum (fun g => decide (r g = w + 1)) n
def vlR (S : Sh) (r : Rw) : Bool := allb (fun w => decide (pc (setZ r w (nG S)) ≤ 2)) (nW S)
def vaP (S : Sh) (r : Rw) : Nat → Bool := fun w => wishZ S w (moodZ S w (setZ r w (nG S)) 0)
def valR (S : Sh) (r : Rw) : Int := cntz (vaP S r) (nW S)
def givR (r : Rw) (n : Nat) : Int := cntz (fun g => decide (r g ≠ 0)) n
abbrev Ac : Type := Int × Int × Rw
def lfD (S : Sh) (r : Rw) (a : Ac) : Ac := if vlR S r = true ∧ (a.1 < valR S r ∨ (a.1 = valR S r ∧ givR r (nG S) < a.2.1)) then (valR S r, givR r (nG S), r) else a
def limD (S : Sh) : Nat → Rw → Nat := fun _ _ => nW S
theorem limD_P (S : Sh) : LimP (limD S) := fun _ _ _ _ => rfl
def r0 : Rw := fun _ => 0
def dA (S : Sh) : Ac := full (nG S) (limD S) (lfD S) (nG S) r0 (-1, 0, r0)
theorem setZ_rg {r : Rw} {w n : Nat} (h : n ≤ 6) : 0 ≤ setZ r w n ∧ setZ r w n < 64 := bsum_le6 h
theorem setZ_lt (r : Rw) (w n : Nat) : 0 ≤ setZ r w n ∧ setZ r w n < 2 ^ n := bsum_nn _ n
def cz (r : Rw) (w n : Nat) : Int := cntz (fun g => decide (r g = w + 1)) n
theorem pc_setZ {r : Rw} {w n : Nat} (h : n ≤ 10) : pc (setZ r w n) = cz r w n := pc_bsum _ h
theorem cz_ups {r : Rw} {w g v : Nat} : cz (ups r g v) w (g + 1) = cz r w g + if v = w + 1 then 1 else 0 := by
  unfold cz
  show cntz _ g + (if decide (ups r g v g = w + 1) then 1 else 0) = _
  rw [cntz_congr (q := fun i => decide (r i = w + 1)) g (fun j hj => by unfold ups; rw [if_neg (by omega)])]
  unfold ups
  rw [if_pos rfl]
  by_cases e : v = w + 1 <;> simp [e]
theorem setZ_ups {r : Rw} {w g v : Nat} : setZ (ups r g v) w (g + 1) = setZ r w g + if v = w + 1 then 2 ^ g else 0 := by
  unfold setZ
  show bsum _ g + (if decide (ups r g v g = w + 1) then 2 ^ g else 0) = _
  rw [bsum_congr (q := fun i => decide (r i = w + 1)) g (fun j hj => by unfold ups; rw [if_neg (by omega)])]
  unfold ups
  rw [if_pos rfl]
  by_cases e : v = w + 1 <;> simp [e]
theorem givR_ups {r : Rw} {g v : Nat} : givR (ups r g v) (g + 1) = givR r g + if v ≠ 0 then 1 else 0 := by
  unfold givR
  show cntz _ g + (if decide (ups r g v g ≠ 0) then 1 else 0) = _
  rw [cntz_congr (q := fun i => decide (r i ≠ 0)) g (fun j hj => by unfold ups; rw [if_neg (by omega)])]
  unfold ups
  rw [if_pos rfl]
  by_cases e : v = 0 <;> simp [e]
theorem full_bad {S : Sh} {w : Nat} (hw : w < nW S) (hn : nG S ≤ 6) : ∀ (k : Nat) (r : Rw) (a : Ac), k ≤ nG S → 3 ≤ cz r w (nG S - k) → full (nG S) (limD S) (lfD S) k r a = a
  | 0, r, a, _, h => by
    show lfD S r a = a
    unfold lfD
    rw [if_neg]
    rintro ⟨h1, -⟩
    have h2 := (allb_iff _).mp h1 w hw
    have h3 := of_decide_eq_true h2
    rw [pc_setZ (by omega)] at h3
    simp only [Nat.sub_zero] at h
    omega
  | k + 1, r, a, hk, h => by
    show it _ a _ = a
    have : ∀ m, it (fun v a => full (nG S) (limD S) (lfD S) k (ups r (nG S - (k + 1)) v) a) a m = a := by
      intro m
      induction m with
      | zero => rfl
      | succ m ih =>
        show full (nG S) (limD S) (lfD S) k (ups r (nG S - (k + 1)) m) (it _ a m) = a
        rw [ih]
        apply full_bad hw hn k _ _ (by omega)
        rw [show nG S - k = nG S - (k + 1) + 1 by omega, cz_ups]
        split <;> omega
    exact this _
/-- what the dressing holds: places ahead of g given by r, the best so far a -/
def HD (S : Sh) (g : Nat) (r : Rw) (a : Ac) (h : Hp) : Prop :=
  ((∀ i : Nat, i < g → h 83 i = (r i : Int) - 1) ∧ (∀ i : Nat, nG S ≤ i → i < 6 → h 83 i = -1)) ∧
  (∀ w : Nat, w < nW S → h 82 w = setZ r w g) ∧
  (∀ w b : Nat, w < nW S → b < 2 ^ nG S → pc b ≤ 2 → h 81 ((w : Int) * 64 + b) = if wishZ S w (moodZ S w b 0) then 1 else 0) ∧
  (h 5 4 = a.1 ∧ h 5 5 = a.2.1) ∧ (0 ≤ a.1 → ∀ i : Nat, i < 6 → h 84 i = if i < nG S then (a.2.2 i : Int) - 1 else -1) ∧
  ((-1 ≤ a.1 ∧ a.1 ≤ 3) ∧ (0 ≤ a.2.1 ∧ a.2.1 ≤ 6))
def FD (h h' : Hp) : Prop := ∀ c k, c ≠ 5 → c ≠ 82 → c ≠ 83 → c ≠ 84 → h' c k = h c k
theorem FD_rf {h : Hp} : FD h h := fun _ _ _ _ _ _ => rfl
theorem FD_tr {h h2 h3 : Hp} (a : FD h h2) (b : FD h2 h3) : FD h h3 := fun c k h1 h4 h5 h6 => (b c k h1 h4 h5 h6).trans (a c k h1 h4 h5 h6)
theorem FD_82 {h : Hp} {k v : Int} : FD h (hset h 82 k v) := fun _ _ _ h2 _ _ => hset_nc h2
theorem FD_83 {h : Hp} {k v : Int} : FD h (hset h 83 k v) := fun _ _ _ _ h3 _ => hset_nc h3
theorem RC_FD {S : Sh} {h h' : Hp} (hR : RC 2 S h) (e : FD h h') : RC 2 S h' := RC_eq hR (fun k => e 2 k (by decide) (by decide) (by decide) (by decide)) (fun i k hi => e _ k (by unfold ch; omega) (by unfold ch; omega) (by unfold ch; omega) (by unfold ch; omega))
theorem c_X2_keepIfBetter {S : Sh} {r : Rw} {a : Ac} {h : Hp} {Q : Int → Hp → Prop} (hW : WF S) (hH : HD S (nG S) r a h) (hv : vlR S r = true) (hq : ∀ h', HD S (nG S) r (lfD S r a) h' → FD h h' → Q 0 h') : CJ 1 kX2_keepIfBetter [.ref 5, vi (nW S), vi (givR r (nG S))] h Q := by
  have hnn := wf_n hW
  have hng := nG_eq hW
  have hnw := nW_eq hW
  obtain ⟨⟨hA1, hA2⟩, hB, hC, ⟨hD1, hD2⟩, hE, hRg⟩ := id hH
  have hgr := cntz_rg (q := fun g => decide (r g ≠ 0)) (nG S)
  have hgv : 0 ≤ givR r (nG S) ∧ givR r (nG S) ≤ 6 := by unfold givR; omega
  have hvr := cntz_rg (q := vaP S r) (nW S)
  have hvv : 0 ≤ valR S r ∧ valR S r ≤ 3 := by unfold valR; omega
  refine cj_of (lo := [some (.ref 5), some (vi (nW S : Int)), some (vi (givR r (nG S))), none, none]) mok_X2_keepIfBetter (fun _ => rfl) (fun _ => Nat.le_of_ble_eq_true rfl) ?_
  refine xj_iconst (pc2 := 1) dX2_keepIfBetter_0 rfl ?_
  refine xj_istore3 (pc2 := 2) dX2_keepIfBetter_1 rfl rfl (by decide) rfl ?_
  refine xj_iconst (pc2 := 3) dX2_keepIfBetter_2 rfl ?_
  refine xj_istore4 (pc2 := 5) dX2_keepIfBetter_3 rfl (by decide) rfl ?_
  refine down (P := fun j => XJ none 1 kX2_keepIfBetter h 5 [some (.ref 5), some (vi (nW S)), some (vi (givR r (nG S))), some (vi (cntz (vaP S r) j)), some (vi j)] [] Q) (n := nW S) ?_ ?_
  · rw [show cntz (vaP S r) (nW S) = valR S r from rfl]
    have up : (a.1 < valR S r ∨ (a.1 = valR S r ∧ givR r (nG S) < a.2.1)) → Q 0 (hcopy (hset (hset h 5 4 (valR S r)) 5 5 (givR r (nG S))) 83 84 (min ((6 : Nat) : Int) ((6 : Nat) : Int))) := by
      intro hc
      refine hq _ ?_ (fun c k h1 h2 h3 h4 => ?_)
      · unfold lfD
        rw [if_pos ⟨hv, hc⟩]
        refine ⟨⟨fun i hi => ?_, fun i h1 h2 => ?_⟩, fun w hw => ?_, fun w b hw hb hp => ?_, ⟨?_, ?_⟩, fun _ i hi => ?_, ⟨by dsimp only; omega, by dsimp only; omega⟩⟩
        · simp [hcopy, hset, hA1 i hi]
        · simp [hcopy, hset, hA2 i h1 h2]
        · simp [hcopy, hset, hB w hw]
        · simp [hcopy, hset, hC w b hw hb hp]
        · simp [hcopy, hset]
        · simp [hcopy, hset]
        · have i6 : (i : Int) < 6 := by omega
          by_cases e : i < nG S
          · simp [hcopy, hset, i6, e, hA1 i e]
          · simp [hcopy, hset, i6, e, hA2 i (by omega) hi]
      · simp [hcopy, hset, h1, h4]
    have no : ¬ (a.1 < valR S r ∨ (a.1 = valR S r ∧ givR r (nG S) < a.2.1)) → Q 0 h := by
      intro hc
      refine hq _ ?_ FD_rf
      unfold lfD
      rw [if_neg (fun q => hc q.2)]
      exact hH
    refine xj_iload (pc2 := 7) dX2_keepIfBetter_5 rfl rfl ?_
    refine xj_iload_n (pc2 := 8) dX2_keepIfBetter_7 rfl rfl rfl ?_
    refine xj_cmp_ge (pc2 := 11) (tgt := 42) dX2_keepIfBetter_8 rfl rfl (by omega) (by omega) (fun c_8 => ?_) (fun c_8 => by exfalso; omega)
    refine xj_iload_n (pc2 := 43) dX2_keepIfBetter_42 rfl rfl rfl ?_
    refine xj_aload_n (pc2 := 44) dX2_keepIfBetter_43 rfl rfl rfl ?_
    refine xj_getI (pc2 := 47) (kz := 4) fok_X2_30 dX2_keepIfBetter_44 rfl rfl rfl (by decide) rfl (by first | assumption | rfl) ?_
    refine xj_cmp_gt (pc2 := 50) (tgt := 66) dX2_keepIfBetter_47 rfl rfl (by omega) (by omega) (fun c_47 => ?_) (fun c_47 => ?_)
    · -- 66
      refine xj_aload_n (pc2 := 67) dX2_keepIfBetter_66 rfl rfl rfl ?_
      refine xj_iload_n (pc2 := 68) dX2_keepIfBetter_67 rfl rfl rfl ?_
      refine xj_putI (pc2 := 71) (kz := 4) fok_X2_30 dX2_keepIfBetter_68 rfl rfl rfl rfl rfl ?_
      refine xj_aload_n (pc2 := 72) dX2_keepIfBetter_71 rfl rfl rfl ?_
      refine xj_iload_n (pc2 := 73) dX2_keepIfBetter_72 rfl rfl rfl ?_
      refine xj_putI (pc2 := 76) (kz := 5) fok_X2_34 dX2_keepIfBetter_73 rfl rfl rfl rfl rfl ?_
      refine xj_aload_n (pc2 := 77) dX2_keepIfBetter_76 rfl rfl rfl ?_
      refine xj_getRn (pc2 := 80) (c2 := 83) fok_X2_18 dX2_keepIfBetter_77 rfl rfl rfl rfl rfl ?_
      refine xj_aload_n (pc2 := 81) dX2_keepIfBetter_80 rfl rfl rfl ?_
      refine xj_getRn (pc2 := 84) (c2 := 84) fok_X2_21 dX2_keepIfBetter_81 rfl rfl rfl rfl rfl ?_
      refine xj_N2V (pc2 := 87) (d2 := 0) mok_X6_copyRow mn_X2_79 sta_yX6_copyRow dX2_keepIfBetter_84 rfl rfl (by decide) (by decide) (Nat.le_of_ble_eq_true rfl) (fun _ => rfl) ?_
      refine c_X6_copyRow rfl rfl (by decide) (by decide) ?_
      refine xj_vret dX2_keepIfBetter_87 rfl ?_
      first | exact up (by omega) | exact no (by omega)
    · -- 50
      refine xj_iload_n (pc2 := 51) dX2_keepIfBetter_50 rfl rfl rfl ?_
      refine xj_aload_n (pc2 := 52) dX2_keepIfBetter_51 rfl rfl rfl ?_
      refine xj_getI (pc2 := 55) (kz := 4) fok_X2_30 dX2_keepIfBetter_52 rfl rfl rfl (by decide) rfl (by first | assumption | rfl) ?_
      refine xj_cmp_ne (pc2 := 58) (tgt := 87) dX2_keepIfBetter_55 rfl rfl (by omega) (by omega) (fun c_55 => ?_) (fun c_55 => ?_)
      · -- 87
        refine xj_vret dX2_keepIfBetter_87 rfl ?_
        first | exact up (by omega) | exact no (by omega)
      · -- 58
        refine xj_iload_n (pc2 := 59) dX2_keepIfBetter_58 rfl rfl rfl ?_
        refine xj_aload_n (pc2 := 60) dX2_keepIfBetter_59 rfl rfl rfl ?_
        refine xj_getI (pc2 := 63) (kz := 5) fok_X2_34 dX2_keepIfBetter_60 rfl rfl rfl (by decide) rfl (by first | assumption | rfl) ?_
        refine xj_cmp_ge (pc2 := 66) (tgt := 87) dX2_keepIfBetter_63 rfl rfl (by omega) (by omega) (fun c_63 => ?_) (fun c_63 => ?_)
        · -- 87
          refine xj_vret dX2_keepIfBetter_87 rfl ?_
          first | exact up (by omega) | exact no (by omega)
        · -- 66
          refine xj_aload_n (pc2 := 67) dX2_keepIfBetter_66 rfl rfl rfl ?_
          refine xj_iload_n (pc2 := 68) dX2_keepIfBetter_67 rfl rfl rfl ?_
          refine xj_putI (pc2 := 71) (kz := 4) fok_X2_30 dX2_keepIfBetter_68 rfl rfl rfl rfl rfl ?_
          refine xj_aload_n (pc2 := 72) dX2_keepIfBetter_71 rfl rfl rfl ?_
          refine xj_iload_n (pc2 := 73) dX2_keepIfBetter_72 rfl rfl rfl ?_
          refine xj_putI (pc2 := 76) (kz := 5) fok_X2_34 dX2_keepIfBetter_73 rfl rfl rfl rfl rfl ?_
          refine xj_aload_n (pc2 := 77) dX2_keepIfBetter_76 rfl rfl rfl ?_
          refine xj_getRn (pc2 := 80) (c2 := 83) fok_X2_18 dX2_keepIfBetter_77 rfl rfl rfl rfl rfl ?_
          refine xj_aload_n (pc2 := 81) dX2_keepIfBetter_80 rfl rfl rfl ?_
          refine xj_getRn (pc2 := 84) (c2 := 84) fok_X2_21 dX2_keepIfBetter_81 rfl rfl rfl rfl rfl ?_
          refine xj_N2V (pc2 := 87) (d2 := 0) mok_X6_copyRow mn_X2_79 sta_yX6_copyRow dX2_keepIfBetter_84 rfl rfl (by decide) (by decide) (Nat.le_of_ble_eq_true rfl) (fun _ => rfl) ?_
          refine c_X6_copyRow rfl rfl (by decide) (by decide) ?_
          refine xj_vret dX2_keepIfBetter_87 rfl ?_
          first | exact up (by omega) | exact no (by omega)
  · intro j hj ih
    have hs := setZ_rg (r := r) (w := j) (n := nG S) (by omega)
    have hs2 := setZ_lt r j (nG S)
    have hpb : pc (setZ r j (nG S)) ≤ 2 := of_decide_eq_true ((allb_iff _).mp hv j hj)
    obtain ⟨bb, hbb⟩ := Int.eq_ofNat_of_zero_le hs.1
    have hb2 : bb < 2 ^ nG S := by
      have : (bb : Int) < 2 ^ nG S := by rw [← hbb]; exact hs2.2
      exact_mod_cast this
    have hC2 : h 81 ((j : Int) * 64 + setZ r j (nG S)) = if vaP S r j then 1 else 0 := by
      unfold vaP
      rw [hbb]
      rw [hbb] at hpb
      exact hC j bb hj hb2 hpb
    have hcj : cntz (vaP S r) (j + 1) = cntz (vaP S r) j + (if vaP S r j then 1 else 0) := rfl
    rw [hcj] at ih
    refine xj_iload (pc2 := 7) dX2_keepIfBetter_5 rfl rfl ?_
    refine xj_iload_n (pc2 := 8) dX2_keepIfBetter_7 rfl rfl rfl ?_
    refine xj_cmp_ge (pc2 := 11) (tgt := 42) dX2_keepIfBetter_8 rfl rfl (by omega) (by omega) (fun c_8 => by exfalso; omega) (fun c_8 => ?_)
    refine xj_iload_n (pc2 := 12) dX2_keepIfBetter_11 rfl rfl rfl ?_
    refine xj_aload_n (pc2 := 13) dX2_keepIfBetter_12 rfl rfl rfl ?_
    refine xj_getRn (pc2 := 16) (c2 := 81) fok_X2_9 dX2_keepIfBetter_13 rfl rfl rfl rfl rfl ?_
    refine xj_iload (pc2 := 18) dX2_keepIfBetter_16 rfl rfl ?_
    refine xj_bipush (pc2 := 20) dX2_keepIfBetter_18 rfl (by decide) ?_
    refine xj_imul (pc2 := 21) dX2_keepIfBetter_20 rfl ?_
    refine xj_aload_n (pc2 := 22) dX2_keepIfBetter_21 rfl rfl rfl ?_
    refine xj_getRn (pc2 := 25) (c2 := 82) fok_X2_15 dX2_keepIfBetter_22 rfl rfl rfl rfl rfl ?_
    refine xj_iload (pc2 := 27) dX2_keepIfBetter_25 rfl rfl ?_
    refine xj_N2I (pc2 := 30) (d2 := 0) mok_X6_at mn_X2_75 sta_yX6_at dX2_keepIfBetter_27 rfl rfl (by decide) (by decide) (Nat.le_of_ble_eq_true rfl) (fun _ => rfl) ?_
    refine c_X6_at rfl (by omega) (by decide) (hB j hj) ?_
    refine xj_iadd (pc2 := 31) dX2_keepIfBetter_30 rfl ?_
    refine xj_N2I (pc2 := 34) (d2 := 0) mok_X6_at mn_X2_75 sta_yX6_at dX2_keepIfBetter_31 rfl rfl (by decide) (by decide) (Nat.le_of_ble_eq_true rfl) (fun _ => rfl) ?_
    refine c_X6_at rfl (by omega) (by decide) hC2 ?_
    refine xj_iadd (pc2 := 35) dX2_keepIfBetter_34 rfl ?_
    refine xj_istore3 (pc2 := 36) dX2_keepIfBetter_35 rfl rfl (by decide) rfl ?_
    refine xj_iinc4 (pc2 := 39) dX2_keepIfBetter_36 rfl (by decide) rfl ?_
    refine xj_goto (tgt := 5) dX2_keepIfBetter_39 rfl ?_
    exact ih
theorem c_X2_give {S : Sh} (hW : WF S) : ∀ (k g : Nat) (r : Rw) (a : Ac) (h : Hp) (Q : Int → Hp → Prop), g + k = nG S → RC 2 S h → HD S g r a h → (∀ w, w < nW S → cz r w g ≤ 2) → (∀ h', HD S g r (full (nG S) (limD S) (lfD S) k r a) h' → FD h h' → Q 0 h') → CJ (2 + k) kX2_give [.ref 5, .ref 2, vi g, vi (givR r g)] h Q := by
  have hnn := wf_n hW
  have hng := nG_eq hW
  have hnw := nW_eq hW
  intro k
  induction k with
  | zero =>
    intro g r a h Q hgk hR hH hcz hq
    obtain ⟨⟨hn, hw, hh, hs⟩, hG, hN, hE⟩ := id hR
    have hg : g = nG S := by omega
    subst hg
    have hvl : vlR S r = true := (allb_iff _).mpr (fun w hw => decide_eq_true (by rw [pc_setZ (by omega)]; exact hcz w hw))
    refine cj_of (lo := [some (.ref 5), some (.ref 2), some (vi (nG S : Int)), some (vi (givR r (nG S))), none, none]) mok_X2_give (fun _ => rfl) (fun _ => Nat.le_of_ble_eq_true rfl) ?_
    refine xj_iload_n (pc2 := 1) dX2_give_0 rfl rfl rfl ?_
    refine xj_aload_n (pc2 := 2) dX2_give_1 rfl rfl rfl ?_
    refine xj_getI (pc2 := 5) (kz := 11) fok_X2_50 dX2_give_2 rfl rfl rfl (by decide) rfl (by first | assumption | rfl) ?_
    refine xj_cmp_ge (pc2 := 8) (tgt := 14) dX2_give_5 rfl rfl (by omega) (by omega) (fun c_5 => ?_) (fun c_5 => by exfalso; omega)
    refine xj_aload_n (pc2 := 15) dX2_give_14 rfl rfl rfl ?_
    refine xj_aload_n (pc2 := 16) dX2_give_15 rfl rfl rfl ?_
    refine xj_getI (pc2 := 19) (kz := 12) fok_X2_45 dX2_give_16 rfl rfl rfl (by decide) rfl (hw.trans hnw.symm) ?_
    refine xj_iload_n (pc2 := 20) dX2_give_19 rfl rfl rfl ?_
    refine xj_V2V (pc2 := 23) (d2 := 1) mok_X2_keepIfBetter ml_X2_71 ima_yX2_keepIfBetter sel_yX2_keepIfBetter rfl rfl dX2_give_20 rfl rfl (by omega) (by decide) (Nat.le_of_ble_eq_true rfl) (fun _ => rfl) ?_
    refine c_X2_keepIfBetter hW hH hvl ?_
    intro h2 hH2 hF2
    refine xj_vret dX2_give_23 rfl ?_
    exact hq _ hH2 hF2
  | succ k ihk =>
    intro g r a h Q hgk hR hH hcz hq
    obtain ⟨⟨hn, hw, hh, hs⟩, hG, hN, hE⟩ := id hR
    obtain ⟨⟨hA1, hA2⟩, hB, hC, ⟨hD1, hD2⟩, hE2, hRg⟩ := id hH
    have hgn : nG S - (k + 1) = g := by omega
    have eu : ∀ v i, i < g → ups r g v i = r i := fun v i hi => by unfold ups; rw [if_neg (by omega)]
    have eg : ∀ v, ups r g v g = v := fun v => by unfold ups; rw [if_pos rfl]
    have H1 : HD S (g + 1) (ups r g 0) a (hset h 83 g (-1)) := by
      refine ⟨⟨fun i hi => ?_, fun i h1 h2 => ?_⟩, fun w hw => ?_, fun w b hw hb hp => ?_, ⟨hD1, hD2⟩, fun h0 i hi => ?_, hRg⟩
      · by_cases e : i = g
        · subst e; rw [hset_eq, eg]; rfl
        · rw [hset_nk (by omega), hA1 i (by omega), eu _ _ (by omega)]
      · rw [hset_nk (by omega), hA2 i h1 h2]
      · rw [hset_nc (by decide), hB w hw, setZ_ups, if_neg (by omega), Int.add_zero]
      · rw [hset_nc (by decide), hC w b hw hb hp]
      · rw [hset_nc (by decide), hE2 h0 i hi]
    have hg1 : givR r g = givR (ups r g 0) (g + 1) := by rw [givR_ups]; simp
    have F1 : FD h (hset h 83 g (-1)) := FD_83
    refine cj_of (lo := [some (.ref 5), some (.ref 2), some (vi (g : Int)), some (vi (givR r g)), none, none]) mok_X2_give (fun _ => rfl) (fun _ => Nat.le_of_ble_eq_true rfl) ?_
    refine xj_iload_n (pc2 := 1) dX2_give_0 rfl rfl rfl ?_
    refine xj_aload_n (pc2 := 2) dX2_give_1 rfl rfl rfl ?_
    refine xj_getI (pc2 := 5) (kz := 11) fok_X2_50 dX2_give_2 rfl rfl rfl (by decide) rfl (by first | assumption | rfl) ?_
    refine xj_cmp_ge (pc2 := 8) (tgt := 14) dX2_give_5 rfl rfl (by omega) (by omega) (fun c_5 => by exfalso; omega) (fun c_5 => ?_)
    refine xj_iload_n (pc2 := 9) dX2_give_8 rfl rfl rfl ?_
    refine xj_bipush (pc2 := 11) dX2_give_9 rfl (by decide) ?_
    refine xj_cmp_lt (pc2 := 14) (tgt := 24) dX2_give_11 rfl rfl (by omega) (by omega) (fun c_11 => ?_) (fun c_11 => by exfalso; omega)
    refine xj_aload_n (pc2 := 25) dX2_give_24 rfl rfl rfl ?_
    refine xj_getRn (pc2 := 28) (c2 := 83) fok_X2_18 dX2_give_25 rfl rfl rfl rfl rfl ?_
    refine xj_iload_n (pc2 := 29) dX2_give_28 rfl rfl rfl ?_
    refine xj_iconst (pc2 := 30) dX2_give_29 rfl ?_
    refine xj_N3V (pc2 := 33) (d2 := 0) mok_X6_put mn_X2_67 sta_yX6_put dX2_give_30 rfl rfl (by omega) (by decide) (Nat.le_of_ble_eq_true rfl) (fun _ => rfl) ?_
    refine c_X6_put rfl (by omega) (by decide) ?_
    refine xj_aload_n (pc2 := 34) dX2_give_33 rfl rfl rfl ?_
    refine xj_aload_n (pc2 := 35) dX2_give_34 rfl rfl rfl ?_
    refine xj_iload_n (pc2 := 36) dX2_give_35 rfl rfl rfl ?_
    refine xj_iconst (pc2 := 37) dX2_give_36 rfl ?_
    refine xj_iadd (pc2 := 38) dX2_give_37 rfl ?_
    refine xj_iload_n (pc2 := 39) dX2_give_38 rfl rfl rfl ?_
    refine xj_S4V (pc2 := 42) (d2 := (2 + k)) mok_X2_give ml_X2_41 sta_yX2_give dX2_give_39 rfl rfl (by omega) (by decide) (Nat.le_of_ble_eq_true rfl) (fun _ => rfl) ?_
    rw [hg1]
    refine ihk (g + 1) (ups r g 0) a _ _ (by omega) (RC_FD hR F1) H1 (fun w hw => by rw [cz_ups, if_neg (by omega)]; have := hcz w hw; omega) ?_
    intro h2 H2 F2
    refine xj_iconst (pc2 := 43) dX2_give_42 rfl ?_
    refine xj_istore4 (pc2 := 45) dX2_give_43 rfl (by decide) rfl ?_
    have Hb : ∀ (v : Nat) (a' : Ac) (h5 h' : Hp), HD S (g + 1) (ups r g v) a' h5 → (∀ c k, c ≠ 82 → h' c k = h5 c k) → (∀ w : Nat, w < nW S → h' 82 w = setZ r w g) → HD S g r a' h' := by
      intro v a' h5 h' hh' hf hs'
      obtain ⟨⟨q1, q2⟩, q3, q4, q5, q6, q7⟩ := hh'
      exact ⟨⟨fun i hi => by rw [hf _ _ (by decide), q1 i (by omega), eu _ _ hi], fun i h1 h2 => by rw [hf _ _ (by decide), q2 i h1 h2]⟩, hs', fun w b h1 h2 h3 => by rw [hf _ _ (by decide), q4 w b h1 h2 h3], ⟨by rw [hf _ _ (by decide), q5.1], by rw [hf _ _ (by decide), q5.2]⟩, fun h0 i hi => by rw [hf _ _ (by decide), q6 h0 i hi], q7⟩
    have H3 : HD S g r (it (fun v a => full (nG S) (limD S) (lfD S) k (ups r g v) a) a (0 + 1)) h2 := Hb 0 _ h2 h2 H2 (fun _ _ _ => rfl) (fun w hw => by rw [H2.2.1 w hw, setZ_ups, if_neg (by omega), Int.add_zero])
    rw [← hg1]
    refine down (P := fun j => ∀ h' : Hp, HD S g r (it (fun v a => full (nG S) (limD S) (lfD S) k (ups r g v) a) a (j + 1)) h' → FD h h' → XJ none (2 + (k + 1)) kX2_give h' 45 [some (.ref 5), some (.ref 2), some (vi g), some (vi (givR r g)), some (vi j), none] [] Q) (n := nW S) ?_ ?_ h2 H3 (FD_tr F1 F2)
    · intro h' hH' hF'
      have hw' : h' 2 12 = (nW S : Int) := ((RC_FD hR hF').1.2.1).trans hnw.symm
      refine xj_iload (pc2 := 47) dX2_give_45 rfl rfl ?_
      refine xj_aload_n (pc2 := 48) dX2_give_47 rfl rfl rfl ?_
      refine xj_getI (pc2 := 51) (kz := 12) fok_X2_45 dX2_give_48 rfl rfl rfl (by decide) rfl (by first | assumption | rfl) ?_
      refine xj_cmp_ge (pc2 := 54) (tgt := 127) dX2_give_51 rfl rfl (by omega) (by omega) (fun c_51 => ?_) (fun c_51 => by exfalso; omega)
      refine xj_vret dX2_give_127 rfl ?_
      refine hq _ ?_ hF'
      show HD S g r (it (fun v a => full (nG S) (limD S) (lfD S) k (ups r (nG S - (k + 1)) v) a) a (nW S + 1)) h'
      rw [hgn]
      exact hH'
    · intro j hj ih h' hH' hF'
      have hR' := RC_FD hR hF'
      have hw' : h' 2 12 = (nW S : Int) := hR'.1.2.1.trans hnw.symm
      have hsj : h' 82 j = setZ r j g := hH'.2.1 j hj
      have hsr := setZ_rg (r := r) (w := j) (n := g) (by omega)
      have hpe : pc (setZ r j g) = cz r j g := pc_setZ (by omega)
      have hpr := pc_rg (x := setZ r j g)
      have hbo : bor (setZ r j g) (bshl 1 g) = setZ (ups r g (j + 1)) j (g + 1) := by
        rw [setZ_ups, if_pos rfl]
        exact bor_add (setZ_lt r j g) (by omega)
      have hit : it (fun v a => full (nG S) (limD S) (lfD S) k (ups r g v) a) a (j + 1 + 1) = full (nG S) (limD S) (lfD S) k (ups r g (j + 1)) (it (fun v a => full (nG S) (limD S) (lfD S) k (ups r g v) a) a (j + 1)) := rfl
      rw [hit] at ih
      generalize it (fun v a => full (nG S) (limD S) (lfD S) k (ups r g v) a) a (j + 1) = a2 at hH' ih
      obtain ⟨⟨p1, p2⟩, p3, p4, p5, p6, p7⟩ := id hH'
      have H4 : HD S (g + 1) (ups r g (j + 1)) a2 (hset (hset h' 83 g j) 82 j (setZ (ups r g (j + 1)) j (g + 1))) := by
        refine ⟨⟨fun i hi => ?_, fun i h1 h2 => ?_⟩, fun w hw => ?_, fun w b hw hb hp => ?_, ⟨p5.1, p5.2⟩, fun h0 i hi => ?_, p7⟩
        · rw [hset_nc (by decide)]
          by_cases e : i = g
          · subst e; rw [hset_eq, eg]; omega
          · rw [hset_nk (by omega), p1 i (by omega), eu _ _ (by omega)]
        · rw [hset_nc (by decide), hset_nk (by omega), p2 i h1 h2]
        · by_cases e : w = j
          · subst e; rw [hset_eq]
          · rw [hset_nk (by omega), hset_nc (by decide), p3 w hw, setZ_ups, if_neg (by omega), Int.add_zero]
        · rw [hset_nc (by decide), hset_nc (by decide), p4 w b hw hb hp]
        · rw [hset_nc (by decide), hset_nc (by decide), p6 h0 i hi]
      have F4 : FD h (hset (hset h' 83 g j) 82 j (setZ (ups r g (j + 1)) j (g + 1))) := FD_tr (FD_tr hF' FD_83) FD_82
      have hg2 : givR r g + 1 = givR (ups r g (j + 1)) (g + 1) := by rw [givR_ups, if_pos (by omega)]
      refine xj_iload (pc2 := 47) dX2_give_45 rfl rfl ?_
      refine xj_aload_n (pc2 := 48) dX2_give_47 rfl rfl rfl ?_
      refine xj_getI (pc2 := 51) (kz := 12) fok_X2_45 dX2_give_48 rfl rfl rfl (by decide) rfl (by first | assumption | rfl) ?_
      refine xj_cmp_ge (pc2 := 54) (tgt := 127) dX2_give_51 rfl rfl (by omega) (by omega) (fun c_51 => by exfalso; omega) (fun c_51 => ?_)
      refine xj_aload_n (pc2 := 55) dX2_give_54 rfl rfl rfl ?_
      refine xj_getRn (pc2 := 58) (c2 := 82) fok_X2_15 dX2_give_55 rfl rfl rfl rfl rfl ?_
      refine xj_iload (pc2 := 60) dX2_give_58 rfl rfl ?_
      refine xj_N2I (pc2 := 63) (d2 := 0) mok_X6_at mn_X2_75 sta_yX6_at dX2_give_60 rfl rfl (by omega) (by decide) (Nat.le_of_ble_eq_true rfl) (fun _ => rfl) ?_
      refine c_X6_at rfl (by omega) (by decide) hsj ?_
      refine xj_istore5 (pc2 := 65) dX2_give_63 rfl (by decide) rfl ?_
      refine xj_iload (pc2 := 67) dX2_give_65 rfl rfl ?_
      refine xj_S1I (pc2 := 70) (d2 := 0) mok_J6_bitCount_0f7a4 ml_X2_53 sta_yJ6_bitCount_0f7a4 dX2_give_67 rfl rfl (by omega) (by decide) (Nat.le_of_ble_eq_true rfl) (fun _ => rfl) ?_
      refine c_bitCount (by omega) ?_
      refine xj_iconst (pc2 := 71) dX2_give_70 rfl ?_
      refine xj_cmp_ge (pc2 := 74) (tgt := 121) dX2_give_71 rfl rfl (by omega) (by omega) (fun c_71 => ?_) (fun c_71 => ?_)
      · -- 121
        rw [full_bad hj (by omega) k _ _ (by omega) (by rw [show nG S - k = g + 1 by omega, cz_ups, if_pos rfl]; omega)] at ih
        refine xj_iinc4 (pc2 := 124) dX2_give_121 rfl (by decide) rfl ?_
        refine xj_goto (tgt := 45) dX2_give_124 rfl ?_
        first
        | exact xj_sub (by repeat (first | exact subL_nil | apply subL_none | apply subL_some rfl)) (ih _ hH' hF')
        | (refine xj_sub (by repeat (first | exact subL_nil | apply subL_none | apply subL_some rfl)) (ih _ (Hb (j + 1) _ _ _ H5 (fun c k hc => hset_nc hc) (fun w hw => ?_)) (FD_tr (FD_tr F4 F5) FD_82))
           · by_cases e : w = j
             · subst e; exact hset_eq _ _ _ _
             · rw [hset_nk (by omega), H5.2.1 w hw, setZ_ups, if_neg (by omega), Int.add_zero])
      · -- 74
        refine xj_aload_n (pc2 := 75) dX2_give_74 rfl rfl rfl ?_
        refine xj_getRn (pc2 := 78) (c2 := 83) fok_X2_18 dX2_give_75 rfl rfl rfl rfl rfl ?_
        refine xj_iload_n (pc2 := 79) dX2_give_78 rfl rfl rfl ?_
        refine xj_iload (pc2 := 81) dX2_give_79 rfl rfl ?_
        refine xj_N3V (pc2 := 84) (d2 := 0) mok_X6_put mn_X2_67 sta_yX6_put dX2_give_81 rfl rfl (by omega) (by decide) (Nat.le_of_ble_eq_true rfl) (fun _ => rfl) ?_
        refine c_X6_put rfl (by omega) (by decide) ?_
        refine xj_aload_n (pc2 := 85) dX2_give_84 rfl rfl rfl ?_
        refine xj_getRn (pc2 := 88) (c2 := 82) fok_X2_15 dX2_give_85 rfl rfl rfl rfl rfl ?_
        refine xj_iload (pc2 := 90) dX2_give_88 rfl rfl ?_
        refine xj_iload (pc2 := 92) dX2_give_90 rfl rfl ?_
        refine xj_iconst (pc2 := 93) dX2_give_92 rfl ?_
        refine xj_iload_n (pc2 := 94) dX2_give_93 rfl rfl rfl ?_
        refine xj_ishl (pc2 := 95) dX2_give_94 rfl ?_
        refine xj_ior (pc2 := 96) dX2_give_95 rfl ?_
        rw [hbo]
        refine xj_N3V (pc2 := 99) (d2 := 0) mok_X6_put mn_X2_67 sta_yX6_put dX2_give_96 rfl rfl (by omega) (by decide) (Nat.le_of_ble_eq_true rfl) (fun _ => rfl) ?_
        refine c_X6_put rfl (by omega) (by decide) ?_
        refine xj_aload_n (pc2 := 100) dX2_give_99 rfl rfl rfl ?_
        refine xj_aload_n (pc2 := 101) dX2_give_100 rfl rfl rfl ?_
        refine xj_iload_n (pc2 := 102) dX2_give_101 rfl rfl rfl ?_
        refine xj_iconst (pc2 := 103) dX2_give_102 rfl ?_
        refine xj_iadd (pc2 := 104) dX2_give_103 rfl ?_
        refine xj_iload_n (pc2 := 105) dX2_give_104 rfl rfl rfl ?_
        refine xj_iconst (pc2 := 106) dX2_give_105 rfl ?_
        refine xj_iadd (pc2 := 107) dX2_give_106 rfl ?_
        refine xj_S4V (pc2 := 110) (d2 := (2 + k)) mok_X2_give ml_X2_41 sta_yX2_give dX2_give_107 rfl rfl (by omega) (by decide) (Nat.le_of_ble_eq_true rfl) (fun _ => rfl) ?_
        rw [hg2]
        refine ihk (g + 1) (ups r g (j + 1)) a2 _ _ (by omega) (RC_FD hR F4) H4 (fun w hw => by
          rw [cz_ups]
          have := hcz w hw
          split
          · rename_i e
            have e2 : w = j := by omega
            subst e2
            omega
          · omega) ?_
        intro h5 H5 F5
        refine xj_aload_n (pc2 := 111) dX2_give_110 rfl rfl rfl ?_
        refine xj_getRn (pc2 := 114) (c2 := 82) fok_X2_15 dX2_give_111 rfl rfl rfl rfl rfl ?_
        refine xj_iload (pc2 := 116) dX2_give_114 rfl rfl ?_
        refine xj_iload (pc2 := 118) dX2_give_116 rfl rfl ?_
        refine xj_N3V (pc2 := 121) (d2 := 0) mok_X6_put mn_X2_67 sta_yX6_put dX2_give_118 rfl rfl (by omega) (by decide) (Nat.le_of_ble_eq_true rfl) (fun _ => rfl) ?_
        refine c_X6_put rfl (by omega) (by decide) ?_
        refine xj_iinc4 (pc2 := 124) dX2_give_121 rfl (by decide) rfl ?_
        refine xj_goto (tgt := 45) dX2_give_124 rfl ?_
        first
        | exact xj_sub (by repeat (first | exact subL_nil | apply subL_none | apply subL_some rfl)) (ih _ hH' hF')
        | (refine xj_sub (by repeat (first | exact subL_nil | apply subL_none | apply subL_some rfl)) (ih _ (Hb (j + 1) _ _ _ H5 (fun c k hc => hset_nc hc) (fun w hw => ?_)) (FD_tr (FD_tr F4 F5) FD_82))
           · by_cases e : w = j
             · subst e; exact hset_eq _ _ _ _
             · rw [hset_nk (by omega), H5.2.1 w hw, setZ_ups, if_neg (by omega), Int.add_zero])
