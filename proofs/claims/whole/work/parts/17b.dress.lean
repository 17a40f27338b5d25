/-! DRESS: what a set does; the whole search -/
theorem c_X2_judgeSets {S : Sh} {h : Hp} {Q : Int → Hp → Prop} (hR : RC 2 S h) (hW : WF S) (hq : ∀ h', (∀ w b : Nat, w < nW S → b < 2 ^ nG S → pc b ≤ 2 → h' 81 ((w : Int) * 64 + b) = if wishZ S w (moodZ S w b 0) then 1 else 0) → (∀ c k, c ≠ 81 → h' c k = h c k) → Q 0 h') : CJ 3 kX2_judgeSets [.ref 5, .ref 2] h Q := by
  have hnn := wf_n hW
  have hng := nG_eq hW
  have hnw := nW_eq hW
  have hpw := pow_le6 (n := nG S) (by omega)
  obtain ⟨N, hN2⟩ : ∃ N : Nat, N = 2 ^ nG S := ⟨_, rfl⟩
  rw [← hN2] at hq
  have hN3 : bshl 1 (nG S : Int) = (N : Int) := by rw [bshl_one (by omega), hN2]; simp
  have hRk : ∀ h' : Hp, (∀ c k, c ≠ 81 → h' c k = h c k) → RC 2 S h' := fun h' hf => RC_eq hR (fun k => hf 2 k (by decide)) (fun i k hi => hf _ k (by unfold ch; omega))
  have H0 := hR
  refine cj_of (lo := [some (.ref 5), some (.ref 2), none, none, none]) mok_X2_judgeSets (fun _ => rfl) (fun _ => Nat.le_of_ble_eq_true rfl) ?_
  refine xj_iconst (pc2 := 1) dX2_judgeSets_0 rfl ?_
  refine xj_istore2 (pc2 := 2) dX2_judgeSets_1 rfl rfl (by decide) rfl ?_
  refine down (P := fun j => ∀ h' : Hp, (∀ w b : Nat, w < j → b < N → pc b ≤ 2 → h' 81 ((w : Int) * 64 + b) = if wishZ S w (moodZ S w b 0) then 1 else 0) → (∀ c k, c ≠ 81 → h' c k = h c k) → XJ none 3 kX2_judgeSets h' 2 [some (.ref 5), some (.ref 2), some (vi j), none, none] [] Q) (n := nW S) ?_ ?_ h (fun w b hw => by omega) (fun _ _ _ => rfl)
  · intro h' f1 f2
    have hw' : h' 2 12 = (nW S : Int) := (hRk h' f2).1.2.1.trans hnw.symm
    refine xj_iload_n (pc2 := 3) dX2_judgeSets_2 rfl rfl rfl ?_
    refine xj_aload_n (pc2 := 4) dX2_judgeSets_3 rfl rfl rfl ?_
    refine xj_getI (pc2 := 7) (kz := 12) fok_X2_45 dX2_judgeSets_4 rfl rfl rfl (by decide) rfl (by first | assumption | rfl) ?_
    refine xj_cmp_ge (pc2 := 10) (tgt := 79) dX2_judgeSets_7 rfl rfl (by omega) (by omega) (fun c_7 => ?_) (fun c_7 => by exfalso; omega)
    refine xj_vret dX2_judgeSets_79 rfl ?_
    exact hq _ f1 f2
  · intro j hj ih h' f1 f2
    have hw' : h' 2 12 = (nW S : Int) := (hRk h' f2).1.2.1.trans hnw.symm
    refine xj_iload_n (pc2 := 3) dX2_judgeSets_2 rfl rfl rfl ?_
    refine xj_aload_n (pc2 := 4) dX2_judgeSets_3 rfl rfl rfl ?_
    refine xj_getI (pc2 := 7) (kz := 12) fok_X2_45 dX2_judgeSets_4 rfl rfl rfl (by decide) rfl (by first | assumption | rfl) ?_
    refine xj_cmp_ge (pc2 := 10) (tgt := 79) dX2_judgeSets_7 rfl rfl (by omega) (by omega) (fun c_7 => by exfalso; omega) (fun c_7 => ?_)
    refine xj_iconst (pc2 := 11) dX2_judgeSets_10 rfl ?_
    refine xj_istore3 (pc2 := 12) dX2_judgeSets_11 rfl rfl (by decide) rfl ?_
    refine down (P := fun i => ∀ h2 : Hp, (∀ w b : Nat, (w < j ∧ b < N) ∨ (w = j ∧ b < i) → pc b ≤ 2 → h2 81 ((w : Int) * 64 + b) = if wishZ S w (moodZ S w b 0) then 1 else 0) → (∀ c k, c ≠ 81 → h2 c k = h c k) → XJ none 3 kX2_judgeSets h2 12 [some (.ref 5), some (.ref 2), some (vi j), some (vi i), none] [] Q) (n := N) ?_ ?_ h' (fun w b hw hp => f1 w b (by omega) (by omega) hp) f2
    · intro h2 g1 g2
      have hn' : h2 2 11 = (nG S : Int) := (hRk h2 g2).1.1.trans hng.symm
      refine xj_iload_n (pc2 := 13) dX2_judgeSets_12 rfl rfl rfl ?_
      refine xj_iconst (pc2 := 14) dX2_judgeSets_13 rfl ?_
      refine xj_aload_n (pc2 := 15) dX2_judgeSets_14 rfl rfl rfl ?_
      refine xj_getI (pc2 := 18) (kz := 11) fok_X2_50 dX2_judgeSets_15 rfl rfl rfl (by decide) rfl (by first | assumption | rfl) ?_
      refine xj_ishl (pc2 := 19) dX2_judgeSets_18 rfl ?_
      rw [hN3]
      refine xj_cmp_ge (pc2 := 22) (tgt := 73) dX2_judgeSets_19 rfl rfl (by omega) (by omega) (fun c_19 => ?_) (fun c_19 => by exfalso; omega)
      refine xj_iinc2 (pc2 := 76) dX2_judgeSets_73 rfl (by decide) rfl ?_
      refine xj_goto (tgt := 2) dX2_judgeSets_76 rfl ?_
      exact xj_sub (by repeat (first | exact subL_nil | apply subL_none | apply subL_some rfl)) (ih _ (fun w b hw hb hp => g1 w b (by omega) hp) g2)
    · intro i hi ihi h2 g1 g2
      have hR := hRk h2 g2
      have hn' : h2 2 11 = (nG S : Int) := hR.1.1.trans hng.symm
      have hmr := moodZ_rg hW (w := (j : Int)) (b := (i : Int)) (m := 0) (by omega) (by decide)
      have hpr := pc_rg (x := (i : Int))
      refine xj_iload_n (pc2 := 13) dX2_judgeSets_12 rfl rfl rfl ?_
      refine xj_iconst (pc2 := 14) dX2_judgeSets_13 rfl ?_
      refine xj_aload_n (pc2 := 15) dX2_judgeSets_14 rfl rfl rfl ?_
      refine xj_getI (pc2 := 18) (kz := 11) fok_X2_50 dX2_judgeSets_15 rfl rfl rfl (by decide) rfl (by first | assumption | rfl) ?_
      refine xj_ishl (pc2 := 19) dX2_judgeSets_18 rfl ?_
      rw [hN3]
      refine xj_cmp_ge (pc2 := 22) (tgt := 73) dX2_judgeSets_19 rfl rfl (by omega) (by omega) (fun c_19 => by exfalso; omega) (fun c_19 => ?_)
      refine xj_iload_n (pc2 := 23) dX2_judgeSets_22 rfl rfl rfl ?_
      refine xj_S1I (pc2 := 26) (d2 := 0) mok_J6_bitCount_0f7a4 ml_X2_53 sta_yJ6_bitCount_0f7a4 dX2_judgeSets_23 rfl rfl (by decide) (by decide) (Nat.le_of_ble_eq_true rfl) (fun _ => rfl) ?_
      refine c_bitCount (by omega) ?_
      refine xj_iconst (pc2 := 27) dX2_judgeSets_26 rfl ?_
      refine xj_cmp_gt (pc2 := 30) (tgt := 67) dX2_judgeSets_27 rfl rfl (by omega) (by omega) (fun c_27 => ?_) (fun c_27 => ?_)
      · -- 67
        refine xj_iinc3 (pc2 := 70) dX2_judgeSets_67 rfl (by decide) rfl ?_
        refine xj_goto (tgt := 12) dX2_judgeSets_70 rfl ?_
        refine xj_sub (by repeat (first | exact subL_nil | apply subL_none | apply subL_some rfl)) (ihi _ (fun w b hw hp => ?_) ?_)
        · by_cases e : w = j ∧ b = i
          · obtain ⟨e1, e2⟩ := e
            subst e1; subst e2
            first
            | (rw [hset_eq, if_pos c_39])
            | (rw [hset_eq, if_neg c_39])
            | (exfalso; omega)
          · first
            | exact g1 w b (by omega) hp
            | (rw [hset_nk (by omega)]; exact g1 w b (by omega) hp)
        · first
          | exact g2
          | exact fun c k hc => (hset_nc hc).trans (g2 c k hc)
      · -- 30
        refine xj_aload_n (pc2 := 31) dX2_judgeSets_30 rfl rfl rfl ?_
        refine xj_iload_n (pc2 := 32) dX2_judgeSets_31 rfl rfl rfl ?_
        refine xj_aload_n (pc2 := 33) dX2_judgeSets_32 rfl rfl rfl ?_
        refine xj_iload_n (pc2 := 34) dX2_judgeSets_33 rfl rfl rfl ?_
        refine xj_iload_n (pc2 := 35) dX2_judgeSets_34 rfl rfl rfl ?_
        refine xj_iconst (pc2 := 36) dX2_judgeSets_35 rfl ?_
        refine xj_V3I (pc2 := 39) (d2 := 2) mok_X5_moodWith ml_X2_59 ima_yX5_moodWith sel_yX5_moodWith rfl rfl dX2_judgeSets_36 rfl rfl (by decide) (by decide) (Nat.le_of_ble_eq_true rfl) (fun _ => rfl) ?_
        refine c_X5_moodWith (Or.inl rfl) hR hW (by omega) (by omega) (by omega) ?_
        refine xj_V2I (pc2 := 42) (d2 := 1) mok_X5_pleases ml_X2_63 ima_yX5_pleases sel_yX5_pleases rfl rfl dX2_judgeSets_39 rfl rfl (by decide) (by decide) (Nat.le_of_ble_eq_true rfl) (fun _ => rfl) ?_
        refine c_X5_pleases (Or.inl rfl) hR hW (by omega) (by omega) ?_ ?_
        · -- X5_pleases = 1
          intro c_39
          refine xj_istore4 (pc2 := 44) dX2_judgeSets_42 rfl (by decide) rfl ?_
          refine xj_aload_n (pc2 := 45) dX2_judgeSets_44 rfl rfl rfl ?_
          refine xj_getRn (pc2 := 48) (c2 := 81) fok_X2_9 dX2_judgeSets_45 rfl rfl rfl rfl rfl ?_
          refine xj_iload_n (pc2 := 49) dX2_judgeSets_48 rfl rfl rfl ?_
          refine xj_bipush (pc2 := 51) dX2_judgeSets_49 rfl (by decide) ?_
          refine xj_imul (pc2 := 52) dX2_judgeSets_51 rfl ?_
          refine xj_iload_n (pc2 := 53) dX2_judgeSets_52 rfl rfl rfl ?_
          refine xj_iadd (pc2 := 54) dX2_judgeSets_53 rfl ?_
          refine xj_iload (pc2 := 56) dX2_judgeSets_54 rfl rfl ?_
          refine xj_if_eq (pc2 := 59) (tgt := 63) dX2_judgeSets_56 rfl rfl (by omega) (fun c_56 => absurd c_56 (by decide)) (fun c_56 => ?_)
          refine xj_iconst (pc2 := 60) dX2_judgeSets_59 rfl ?_
          refine xj_goto (tgt := 64) dX2_judgeSets_60 rfl ?_
          refine xj_N3V (pc2 := 67) (d2 := 0) mok_X6_put mn_X2_67 sta_yX6_put dX2_judgeSets_64 rfl rfl (by decide) (by decide) (Nat.le_of_ble_eq_true rfl) (fun _ => rfl) ?_
          refine c_X6_put rfl (by omega) (by decide) ?_
          refine xj_iinc3 (pc2 := 70) dX2_judgeSets_67 rfl (by decide) rfl ?_
          refine xj_goto (tgt := 12) dX2_judgeSets_70 rfl ?_
          refine xj_sub (by repeat (first | exact subL_nil | apply subL_none | apply subL_some rfl)) (ihi _ (fun w b hw hp => ?_) ?_)
          · by_cases e : w = j ∧ b = i
            · obtain ⟨e1, e2⟩ := e
              subst e1; subst e2
              first
              | (rw [hset_eq, if_pos c_39])
              | (rw [hset_eq, if_neg c_39])
              | (exfalso; omega)
            · first
              | exact g1 w b (by omega) hp
              | (rw [hset_nk (by omega)]; exact g1 w b (by omega) hp)
          · first
            | exact g2
            | exact fun c k hc => (hset_nc hc).trans (g2 c k hc)
        · -- X5_pleases = 0
          intro c_39
          refine xj_istore4 (pc2 := 44) dX2_judgeSets_42 rfl (by decide) rfl ?_
          refine xj_aload_n (pc2 := 45) dX2_judgeSets_44 rfl rfl rfl ?_
          refine xj_getRn (pc2 := 48) (c2 := 81) fok_X2_9 dX2_judgeSets_45 rfl rfl rfl rfl rfl ?_
          refine xj_iload_n (pc2 := 49) dX2_judgeSets_48 rfl rfl rfl ?_
          refine xj_bipush (pc2 := 51) dX2_judgeSets_49 rfl (by decide) ?_
          refine xj_imul (pc2 := 52) dX2_judgeSets_51 rfl ?_
          refine xj_iload_n (pc2 := 53) dX2_judgeSets_52 rfl rfl rfl ?_
          refine xj_iadd (pc2 := 54) dX2_judgeSets_53 rfl ?_
          refine xj_iload (pc2 := 56) dX2_judgeSets_54 rfl rfl ?_
          refine xj_if_eq (pc2 := 59) (tgt := 63) dX2_judgeSets_56 rfl rfl (by omega) (fun c_56 => ?_) (fun c_56 => absurd c_56 (by decide))
          refine xj_iconst (pc2 := 64) dX2_judgeSets_63 rfl ?_
          refine xj_N3V (pc2 := 67) (d2 := 0) mok_X6_put mn_X2_67 sta_yX6_put dX2_judgeSets_64 rfl rfl (by decide) (by decide) (Nat.le_of_ble_eq_true rfl) (fun _ => rfl) ?_
          refine c_X6_put rfl (by omega) (by decide) ?_
          refine xj_iinc3 (pc2 := 70) dX2_judgeSets_67 rfl (by decide) rfl ?_
          refine xj_goto (tgt := 12) dX2_judgeSets_70 rfl ?_
          refine xj_sub (by repeat (first | exact subL_nil | apply subL_none | apply subL_some rfl)) (ihi _ (fun w b hw hp => ?_) ?_)
          · by_cases e : w = j ∧ b = i
            · obtain ⟨e1, e2⟩ := e
              subst e1; subst e2
              first
              | (rw [hset_eq, if_pos c_39])
              | (rw [hset_eq, if_neg c_39])
              | (exfalso; omega)
            · first
              | exact g1 w b (by omega) hp
              | (rw [hset_nk (by omega)]; exact g1 w b (by omega) hp)
          · first
            | exact g2
            | exact fun c k hc => (hset_nc hc).trans (g2 c k hc)
theorem lfD_nn {S : Sh} {r : Rw} {a : Ac} (h : 0 ≤ a.1) : 0 ≤ (lfD S r a).1 := by
  have := cntz_rg (q := vaP S r) (nW S)
  unfold lfD
  split
  · show 0 ≤ valR S r
    unfold valR
    omega
  · exact h
theorem foldl_nn {S : Sh} : ∀ (l : List Rw) (a : Ac), 0 ≤ a.1 → 0 ≤ (l.foldl (fun a r => lfD S r a) a).1
  | [], a, h => h
  | r :: l, a, h => foldl_nn l (lfD S r a) (lfD_nn h)
theorem cz_zero {r : Rw} {w : Nat} : ∀ (n : Nat), (∀ i, i < n → r i = 0) → cz r w n = 0 := by
  intro n h
  unfold cz
  rw [cntz_congr (q := fun _ => false) n (fun j hj => by rw [h j hj]; simp)]
  clear h
  induction n with
  | zero => rfl
  | succ n ih => show cntz _ n + _ = 0; rw [ih]; rfl
theorem vlR_r0 {S : Sh} (hn : nG S ≤ 6) : vlR S r0 = true := (allb_iff _).mpr (fun w hw => decide_eq_true (by rw [pc_setZ (by omega), cz_zero (r := r0) _ (fun i hi => rfl)]; decide))
theorem zr_r0 (n k : Nat) : zr n k r0 = r0 := by
  funext i
  unfold zr r0
  split <;> rfl
theorem lfD_r0 {S : Sh} (hn : nG S ≤ 6) {a : Ac} (h : a.1 = -1) : lfD S r0 a = (valR S r0, givR r0 (nG S), r0) := by
  have := cntz_rg (q := vaP S r0) (nW S)
  unfold lfD
  rw [if_pos ⟨vlR_r0 hn, Or.inl (by unfold valR; omega)⟩]
theorem dA_list {S : Sh} (hW : WF S) : ∃ tl, Rk (nG S) (limD S) (nG S) r0 = r0 :: tl ∧ dA S = tl.foldl (fun a r => lfD S r a) (valR S r0, givR r0 (nG S), r0) := by
  have hnn := wf_n hW
  have hng := nG_eq hW
  have h := Rk_nx (n := nG S) (limD_P S) (nG S) r0 (Nat.le_refl _)
  refine ⟨_, h, ?_⟩
  unfold dA
  rw [full_Rk (limD_P S) (nG S) r0 _ (Nat.le_refl _), zr_r0, h, List.foldl_cons, lfD_r0 (by omega) rfl]
theorem dA_nn {S : Sh} (hW : WF S) : 0 ≤ (dA S).1 := by
  obtain ⟨tl, -, h⟩ := dA_list hW
  rw [h]
  apply foldl_nn
  have := cntz_rg (q := vaP S r0) (nW S)
  show 0 ≤ valR S r0
  unfold valR
  omega
theorem c_X2_find {S : Sh} {h : Hp} {Q : Int → Hp → Prop} (hR : RC 2 S h) (hW : WF S) (hq : ∀ h', (h' 5 4 = (dA S).1 ∧ h' 5 5 = (dA S).2.1 ∧ ∀ i : Nat, i < 6 → h' 84 i = if i < nG S then ((dA S).2.2 i : Int) - 1 else -1) → (∀ c k, c ≠ 5 → c ≠ 81 → c ≠ 82 → c ≠ 83 → c ≠ 84 → h' c k = h c k) → Q 0 h') : CJ (2 + 7) kX2_find [.ref 5, .ref 2] h Q := by
  have hnn := wf_n hW
  have hng := nG_eq hW
  have hnw := nW_eq hW
  have hF : ∀ c k, c ≠ 5 → c ≠ 82 → c ≠ 83 → hset (hset (hfill (hfill h 82 ((3 : Nat) : Int) 0) 83 ((6 : Nat) : Int) (-1)) 5 4 (-1)) 5 5 0 c k = h c k := by
    intro c k h1 h2 h3
    simp [hset, hfill, h1, h2, h3]
  have hR2 : RC 2 S (hset (hset (hfill (hfill h 82 ((3 : Nat) : Int) 0) 83 ((6 : Nat) : Int) (-1)) 5 4 (-1)) 5 5 0) := RC_eq hR (fun k => hF _ _ (by decide) (by decide) (by decide)) (fun i k hi => hF _ _ (by unfold ch; omega) (by unfold ch; omega) (by unfold ch; omega))
  refine cj_of (lo := [some (.ref 5), some (.ref 2)]) mok_X2_find (fun _ => rfl) (fun _ => Nat.le_of_ble_eq_true rfl) ?_
  refine xj_aload_n (pc2 := 1) dX2_find_0 rfl rfl rfl ?_
  refine xj_getRn (pc2 := 4) (c2 := 82) fok_X2_15 dX2_find_1 rfl rfl rfl rfl rfl ?_
  refine xj_iconst (pc2 := 5) dX2_find_4 rfl ?_
  refine xj_S2V (pc2 := 8) (d2 := 0) mok_J7_fill_53178 ml_X2_24 sta_yJ7_fill_53178 dX2_find_5 rfl rfl (by decide) (by decide) (Nat.le_of_ble_eq_true rfl) (fun _ => rfl) ?_
  refine c_fill rfl (by decide) ?_
  refine xj_aload_n (pc2 := 9) dX2_find_8 rfl rfl rfl ?_
  refine xj_getRn (pc2 := 12) (c2 := 83) fok_X2_18 dX2_find_9 rfl rfl rfl rfl rfl ?_
  refine xj_iconst (pc2 := 13) dX2_find_12 rfl ?_
  refine xj_S2V (pc2 := 16) (d2 := 0) mok_J7_fill_53178 ml_X2_24 sta_yJ7_fill_53178 dX2_find_13 rfl rfl (by decide) (by decide) (Nat.le_of_ble_eq_true rfl) (fun _ => rfl) ?_
  refine c_fill rfl (by decide) ?_
  refine xj_aload_n (pc2 := 17) dX2_find_16 rfl rfl rfl ?_
  refine xj_iconst (pc2 := 18) dX2_find_17 rfl ?_
  refine xj_putI (pc2 := 21) (kz := 4) fok_X2_30 dX2_find_18 rfl rfl rfl rfl rfl ?_
  refine xj_aload_n (pc2 := 22) dX2_find_21 rfl rfl rfl ?_
  refine xj_iconst (pc2 := 23) dX2_find_22 rfl ?_
  refine xj_putI (pc2 := 26) (kz := 5) fok_X2_34 dX2_find_23 rfl rfl rfl rfl rfl ?_
  refine xj_aload_n (pc2 := 27) dX2_find_26 rfl rfl rfl ?_
  refine xj_aload_n (pc2 := 28) dX2_find_27 rfl rfl rfl ?_
  refine xj_V1V (pc2 := 31) (d2 := 3) mok_X2_judgeSets ml_X2_37 ima_yX2_judgeSets sel_yX2_judgeSets rfl rfl dX2_find_28 rfl rfl (by decide) (by decide) (Nat.le_of_ble_eq_true rfl) (fun _ => rfl) ?_
  refine c_X2_judgeSets hR2 hW ?_
  intro h3 hJ1 hJ2
  refine xj_aload_n (pc2 := 32) dX2_find_31 rfl rfl rfl ?_
  refine xj_aload_n (pc2 := 33) dX2_find_32 rfl rfl rfl ?_
  refine xj_iconst (pc2 := 34) dX2_find_33 rfl ?_
  refine xj_iconst (pc2 := 35) dX2_find_34 rfl ?_
  refine xj_S4V (pc2 := 38) (d2 := (2 + nG S)) mok_X2_give ml_X2_41 sta_yX2_give dX2_find_35 rfl rfl (by omega) (by decide) (Nat.le_of_ble_eq_true rfl) (fun _ => rfl) ?_
  have hR3 : RC 2 S h3 := RC_eq hR2 (fun k => hJ2 2 k (by decide)) (fun i k hi => hJ2 _ k (by unfold ch; omega))
  have H0 : HD S 0 r0 (-1, 0, r0) h3 := by
    refine ⟨⟨fun i hi => by omega, fun i h1 h2 => ?_⟩, fun w hw => ?_, hJ1, ⟨?_, ?_⟩, fun h0 => by exfalso; revert h0; decide, by decide⟩
    · rw [hJ2 _ _ (by decide), hset_nc (by decide), hset_nc (by decide)]
      unfold hfill
      rw [if_pos (by omega)]
    · have w3 : (w : Int) < 3 := by omega
      rw [hJ2 _ _ (by decide)]
      simp [hset, hfill, w3, setZ, bsum]
    · rw [hJ2 _ _ (by decide)]
      simp [hset]
    · rw [hJ2 _ _ (by decide)]
      simp [hset]
  refine c_X2_give hW (nG S) 0 r0 _ _ _ (by omega) hR3 H0 (fun w hw => by show (0 : Int) ≤ 2; decide) ?_
  intro h4 H4 F4
  rw [show full (nG S) (limD S) (lfD S) (nG S) r0 (-1, 0, r0) = dA S from rfl] at H4
  refine xj_vret dX2_find_38 rfl ?_
  exact hq _ ⟨H4.2.2.2.1.1, H4.2.2.2.1.2, H4.2.2.2.2.1 (dA_nn hW)⟩ (fun c k h1 h2 h5 h6 h7 => by rw [F4 c k h1 h5 h6 h7, hJ2 c k h2, hF c k h1 h5 h6])
