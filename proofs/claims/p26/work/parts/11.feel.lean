/-! feel, counts, what is done to a Shop -/
def EX (h h' : Hp) (c : Nat) : Prop := ∀ c' k, c' ≠ c → h' c' k = h c' k
theorem bne_ch (b k : Nat) : b ≠ ch b k := by unfold ch; omega
theorem ch_bne (b k : Nat) : ch b k ≠ b := by unfold ch; omega
theorem ch_in {b i j : Nat} (h : i ≠ j) : ch b i ≠ ch b j := by unfold ch; omega
theorem RC_eq {b : Nat} {S : Sh} {h h' : Hp} (hR : RC b S h) (e1 : ∀ k, h' b k = h b k) (e2 : ∀ (i : Nat) (k : Int), i < 10 → h' (ch b i) k = h (ch b i) k) : RC b S h' := by
  obtain ⟨⟨a1, a2, a3, a4⟩, hG, hN, hE⟩ := hR
  refine ⟨⟨by rw [e1, a1], by rw [e1, a2], by rw [e1, a3], by rw [e1, a4]⟩, fun g h0 h1 => ?_, fun w h0 h1 => ?_, fun i h0 h1 => ?_⟩
  · obtain ⟨b1, b2, b3, b4, b5⟩ := hG g h0 h1
    exact ⟨by rw [e2 _ _ (by decide), b1], by rw [e2 _ _ (by decide), b2], by rw [e2 _ _ (by decide), b3], by rw [e2 _ _ (by decide), b4], by rw [e2 _ _ (by decide), b5]⟩
  · obtain ⟨b1, b2⟩ := hN w h0 h1
    exact ⟨by rw [e2 _ _ (by decide), b1], by rw [e2 _ _ (by decide), b2]⟩
  · obtain ⟨b1, b2, b3⟩ := hE i h0 h1
    exact ⟨by rw [e2 _ _ (by decide), b1], by rw [e2 _ _ (by decide), b2], by rw [e2 _ _ (by decide), b3]⟩
theorem RC_ex {b : Nat} {S : Sh} {h h' : Hp} (hR : RC b S h) (e : EX h h' (ch b 10)) : RC b S h' := RC_eq hR (fun k => e _ _ (bne_ch b 10)) (fun i k hi => e _ _ (ch_in (by omega)))
def cntz (q : Nat → Bool) : Nat → Int
  | 0 => 0
  | j + 1 => cntz q j + if q j then 1 else 0
theorem cntz_rg {q : Nat → Bool} : ∀ n, 0 ≤ cntz q n ∧ cntz q n ≤ n
  | 0 => by simp [cntz]
  | n + 1 => by
    have := cntz_rg (q := q) n
    unfold cntz
    split <;> omega
theorem cntz_congr {p q : Nat → Bool} : ∀ n, (∀ j, j < n → p j = q j) → cntz p n = cntz q n
  | 0, _ => rfl
  | n + 1, h => by
    unfold cntz
    rw [cntz_congr n (fun j hj => h j (by omega)), h n (by omega)]
/-- how many marks of a set have the temper x -/
def tcP (S : Sh) (g m p x : Int) : Nat → Bool := fun i => memb p i && decide (temperZ (S 0 g) i (agez (S 2 g + m)) = x)
def mlz (S : Sh) (g m p : Int) : Nat → Int
  | 0 => 0
  | j + 1 => if memb p j then max (mlz S g m p j) (cntz (tcP S g m p (temperZ (S 0 g) j (agez (S 2 g + m)))) j + 1) else mlz S g m p j
theorem mlz_rg (S : Sh) (g m p : Int) : ∀ n, 0 ≤ mlz S g m p n ∧ mlz S g m p n ≤ n
  | 0 => by simp [mlz]
  | n + 1 => by
    have h1 := mlz_rg S g m p n
    have h2 := cntz_rg (q := tcP S g m p (temperZ (S 0 g) n (agez (S 2 g + m)))) n
    unfold mlz
    split <;> omega
theorem c_X5_mostLeft {b : Nat} {S : Sh} {g m p : Int} {h : Hp} {Q : Int → Hp → Prop} (hb : Shb b) (hR : RC b S h) (hW : WF S) (hg : 0 ≤ g ∧ g < S 6 0) (hp : 0 ≤ p ∧ p < 1024) (hm : 0 ≤ m ∧ m ≤ 9) (hq : ∀ h', EX h h' (ch b 10) → Q (mlz S g m p 10) h') : CJ 1 kX5_mostLeft [.ref b, vi g, vi p, vi m] h Q := by
  obtain ⟨⟨hn, hw, hh, hs⟩, hG, hN, hE⟩ := id hR
  have hnn := wf_n hW
  have hwg := wf_g hW hg
  have hag := agez_rg (a := S 2 g + m) (by omega)
  refine cj_of (lo := [some (.ref b), some (vi g), some (vi p), some (vi m), none, none, none, none, none, none]) mok_X5_mostLeft (fun _ => rfl) (fun _ => Nat.le_of_ble_eq_true rfl) ?_
  refine xj_aload_n (pc2 := 1) dX5_mostLeft_0 rfl rfl rfl ?_
  refine xj_getR (pc2 := 4) fok_X5_9 dX5_mostLeft_1 rfl rfl (ks hb) rfl ?_
  refine xj_iload_n (pc2 := 5) dX5_mostLeft_4 rfl rfl rfl ?_
  refine xj_N2I (pc2 := 8) (d2 := 0) mok_X6_at mn_X5_72 sta_yX6_at dX5_mostLeft_5 rfl rfl (by decide) (by decide) (Nat.le_of_ble_eq_true rfl) (fun _ => rfl) ?_
  refine c_X6_at (ks0 hb) (by omega) (by decide) (hG _ (by omega) (by omega)).1 ?_
  refine xj_istore4 (pc2 := 10) dX5_mostLeft_8 rfl (by decide) rfl ?_
  refine xj_aload_n (pc2 := 11) dX5_mostLeft_10 rfl rfl rfl ?_
  refine xj_getR (pc2 := 14) fok_X5_18 dX5_mostLeft_11 rfl rfl (ks hb) rfl ?_
  refine xj_iload_n (pc2 := 15) dX5_mostLeft_14 rfl rfl rfl ?_
  refine xj_N2I (pc2 := 18) (d2 := 0) mok_X6_at mn_X5_72 sta_yX6_at dX5_mostLeft_15 rfl rfl (by decide) (by decide) (Nat.le_of_ble_eq_true rfl) (fun _ => rfl) ?_
  refine c_X6_at (ks2 hb) (by omega) (by decide) (hG _ (by omega) (by omega)).2.2.1 ?_
  refine xj_iload_n (pc2 := 19) dX5_mostLeft_18 rfl rfl rfl ?_
  refine xj_iadd (pc2 := 20) dX5_mostLeft_19 rfl ?_
  refine xj_N1I (pc2 := 23) (d2 := 0) mok_X6_ageOf mn_X5_76 sta_yX6_ageOf dX5_mostLeft_20 rfl rfl (by decide) (by decide) (Nat.le_of_ble_eq_true rfl) (fun _ => rfl) ?_
  refine c_X6_ageOf (by omega) ?_
  refine xj_istore5 (pc2 := 25) dX5_mostLeft_23 rfl (by decide) rfl ?_
  refine xj_iconst (pc2 := 26) dX5_mostLeft_25 rfl ?_
  refine xj_istore6 (pc2 := 28) dX5_mostLeft_26 rfl (by decide) rfl ?_
  refine xj_aload_n (pc2 := 29) dX5_mostLeft_28 rfl rfl rfl ?_
  refine xj_getR (pc2 := 32) fok_X5_42 dX5_mostLeft_29 rfl rfl (ks hb) rfl ?_
  refine xj_iconst (pc2 := 33) dX5_mostLeft_32 rfl ?_
  refine xj_S2V (pc2 := 36) (d2 := 0) mok_J7_fill_53178 ml_X5_58 sta_yJ7_fill_53178 dX5_mostLeft_33 rfl rfl (by decide) (by decide) (Nat.le_of_ble_eq_true rfl) (fun _ => rfl) ?_
  refine c_fill (ks10 hb) (by decide) ?_
  refine xj_iconst (pc2 := 37) dX5_mostLeft_36 rfl ?_
  refine xj_istore7 (pc2 := 39) dX5_mostLeft_37 rfl (by decide) rfl ?_
  have key : ∀ h' : Hp, EX h h' (ch b 10) → (∀ x, 0 ≤ x → x ≤ 9 → h' (ch b 10) x = cntz (tcP S g m p x) 0) → XJ none 1 kX5_mostLeft h' 39 [some (.ref b), some (vi g), some (vi p), some (vi m), some (vi (S 0 g)), some (vi (agez (S 2 g + m))), some (vi (mlz S g m p 0)), some (vi (0 : Nat)), none, none] [] Q := by
    refine down (P := fun j => ∀ h' : Hp, EX h h' (ch b 10) → (∀ x, 0 ≤ x → x ≤ 9 → h' (ch b 10) x = cntz (tcP S g m p x) j) → XJ none 1 kX5_mostLeft h' 39 [some (.ref b), some (vi g), some (vi p), some (vi m), some (vi (S 0 g)), some (vi (agez (S 2 g + m))), some (vi (mlz S g m p j)), some (vi j), none, none] [] Q) (n := 10) ?_ ?_
    · intro h' hex hc
      refine xj_iload (pc2 := 41) dX5_mostLeft_39 rfl rfl ?_
      refine xj_bipush (pc2 := 43) dX5_mostLeft_41 rfl (by decide) ?_
      refine xj_cmp_gt (pc2 := 46) (tgt := 105) dX5_mostLeft_43 rfl rfl (by omega) (by omega) (fun c_43 => ?_) (fun c_43 => by exfalso; omega)
      refine xj_iload (pc2 := 107) dX5_mostLeft_105 rfl rfl ?_
      refine xj_iret dX5_mostLeft_107 rfl ?_
      exact hq _ hex
    · intro j hj ih h' hex hc
      have htr := temperZ_rg (k := S 0 g) (m := (j : Int)) (a := agez (S 2 g + m)) (by omega) hag.1
      have hcr := cntz_rg (q := tcP S g m p (temperZ (S 0 g) j (agez (S 2 g + m)))) j
      have hmr := mlz_rg S g m p j
      simp only [mlz, cntz] at ih
      refine xj_iload (pc2 := 41) dX5_mostLeft_39 rfl rfl ?_
      refine xj_bipush (pc2 := 43) dX5_mostLeft_41 rfl (by decide) ?_
      refine xj_cmp_gt (pc2 := 46) (tgt := 105) dX5_mostLeft_43 rfl rfl (by omega) (by omega) (fun c_43 => by exfalso; omega) (fun c_43 => ?_)
      refine xj_iload_n (pc2 := 47) dX5_mostLeft_46 rfl rfl rfl ?_
      refine xj_iload (pc2 := 49) dX5_mostLeft_47 rfl rfl ?_
      refine xj_N2I (pc2 := 52) (d2 := 0) mok_X6_hasBit mn_X5_93 sta_yX6_hasBit dX5_mostLeft_49 rfl rfl (by decide) (by decide) (Nat.le_of_ble_eq_true rfl) (fun _ => rfl) ?_
      refine c_X6_hasBit (by omega) (by omega) ?_ ?_
      · -- X6_hasBit = 1
        intro c_49
        rw [if_pos (memb_iff.mpr c_49)] at ih
        refine xj_if_eq (pc2 := 55) (tgt := 99) dX5_mostLeft_52 rfl rfl (by omega) (fun c_52 => absurd c_52 (by decide)) (fun c_52 => ?_)
        refine xj_iload (pc2 := 57) dX5_mostLeft_55 rfl rfl ?_
        refine xj_iload (pc2 := 59) dX5_mostLeft_57 rfl rfl ?_
        refine xj_iload (pc2 := 61) dX5_mostLeft_59 rfl rfl ?_
        refine xj_N3I (pc2 := 64) (d2 := 0) mok_X6_temperOf mn_X5_80 sta_yX6_temperOf dX5_mostLeft_61 rfl rfl (by decide) (by decide) (Nat.le_of_ble_eq_true rfl) (fun _ => rfl) ?_
        refine c_X6_temperOf (by omega) (by omega) (by omega) ?_
        refine xj_istore8 (pc2 := 66) dX5_mostLeft_64 rfl (by decide) rfl ?_
        refine xj_aload_n (pc2 := 67) dX5_mostLeft_66 rfl rfl rfl ?_
        refine xj_getR (pc2 := 70) fok_X5_42 dX5_mostLeft_67 rfl rfl (ks hb) rfl ?_
        refine xj_iload (pc2 := 72) dX5_mostLeft_70 rfl rfl ?_
        refine xj_N2I (pc2 := 75) (d2 := 0) mok_X6_at mn_X5_72 sta_yX6_at dX5_mostLeft_72 rfl rfl (by decide) (by decide) (Nat.le_of_ble_eq_true rfl) (fun _ => rfl) ?_
        refine c_X6_at (ks10 hb) (by omega) (by decide) (hc _ (by omega) (by omega)) ?_
        refine xj_iconst (pc2 := 76) dX5_mostLeft_75 rfl ?_
        refine xj_iadd (pc2 := 77) dX5_mostLeft_76 rfl ?_
        refine xj_istore9 (pc2 := 79) dX5_mostLeft_77 rfl (by decide) rfl ?_
        refine xj_aload_n (pc2 := 80) dX5_mostLeft_79 rfl rfl rfl ?_
        refine xj_getR (pc2 := 83) fok_X5_42 dX5_mostLeft_80 rfl rfl (ks hb) rfl ?_
        refine xj_iload (pc2 := 85) dX5_mostLeft_83 rfl rfl ?_
        refine xj_iload (pc2 := 87) dX5_mostLeft_85 rfl rfl ?_
        refine xj_N3V (pc2 := 90) (d2 := 0) mok_X6_put mn_X5_68 sta_yX6_put dX5_mostLeft_87 rfl rfl (by decide) (by decide) (Nat.le_of_ble_eq_true rfl) (fun _ => rfl) ?_
        refine c_X6_put (ks10 hb) (by omega) (by decide) ?_
        refine xj_iload (pc2 := 92) dX5_mostLeft_90 rfl rfl ?_
        refine xj_iload (pc2 := 94) dX5_mostLeft_92 rfl rfl ?_
        refine xj_mmax (pc2 := 97) ml_X5_100 dX5_mostLeft_94 rfl rfl (by omega) (by omega) (Nat.le_of_ble_eq_true rfl) ?_
        refine xj_istore6 (pc2 := 99) dX5_mostLeft_97 rfl (by decide) rfl ?_
        refine xj_iinc7 (pc2 := 102) dX5_mostLeft_99 rfl (by decide) rfl ?_
        refine xj_goto (tgt := 39) dX5_mostLeft_102 rfl ?_
        exact xj_sub (by repeat (first | exact subL_nil | apply subL_none | apply subL_some rfl)) (ih _ (by first | exact hex | exact (fun c' k hc' => (hset_nc hc').trans (hex c' k hc'))) (fun x h0 h1 => by
          have hcx := hc x h0 h1
          first
          | (unfold hset
             by_cases e : x = temperZ (S 0 g) j (agez (S 2 g + m))
             · subst e
               rw [if_pos ⟨rfl, rfl⟩, if_pos (by unfold tcP; rw [memb_iff.mpr c_49, Bool.true_and]; exact decide_eq_true rfl)]
             · rw [if_neg (fun q => e q.2), hcx, if_neg (by unfold tcP; rw [memb_iff.mpr c_49, Bool.true_and, decide_eq_true_eq]; exact fun q => e q.symm), Int.add_zero])
          | (rw [hcx, if_neg (by unfold tcP; rw [Bool.and_eq_true]; exact fun q => c_49 (memb_iff.mp q.1)), Int.add_zero])))
      · -- X6_hasBit = 0
        intro c_49
        rw [if_neg (fun q => c_49 (memb_iff.mp q))] at ih
        refine xj_if_eq (pc2 := 55) (tgt := 99) dX5_mostLeft_52 rfl rfl (by omega) (fun c_52 => ?_) (fun c_52 => absurd c_52 (by decide))
        refine xj_iinc7 (pc2 := 102) dX5_mostLeft_99 rfl (by decide) rfl ?_
        refine xj_goto (tgt := 39) dX5_mostLeft_102 rfl ?_
        exact xj_sub (by repeat (first | exact subL_nil | apply subL_none | apply subL_some rfl)) (ih _ (by first | exact hex | exact (fun c' k hc' => (hset_nc hc').trans (hex c' k hc'))) (fun x h0 h1 => by
          have hcx := hc x h0 h1
          first
          | (unfold hset
             by_cases e : x = temperZ (S 0 g) j (agez (S 2 g + m))
             · subst e
               rw [if_pos ⟨rfl, rfl⟩, if_pos (by unfold tcP; rw [memb_iff.mpr c_49, Bool.true_and]; exact decide_eq_true rfl)]
             · rw [if_neg (fun q => e q.2), hcx, if_neg (by unfold tcP; rw [memb_iff.mpr c_49, Bool.true_and, decide_eq_true_eq]; exact fun q => e q.symm), Int.add_zero])
          | (rw [hcx, if_neg (by unfold tcP; rw [Bool.and_eq_true]; exact fun q => c_49 (memb_iff.mp q.1)), Int.add_zero])))
  refine key _ (fun c' k hc' => by unfold hfill; rw [if_neg (fun q => hc' q.1)]) (fun x h0 h1 => by unfold hfill; rw [if_pos ⟨rfl, h0, by omega⟩]; rfl)
def bfF (S : Sh) (g : Int) : Nat → Int × Int → Int × Int := fun j a => if mlz S g j (pmZ S g) 10 < a.2 then ((j : Int), mlz S g j (pmZ S g) 10) else a
def bfZ (S : Sh) (g : Int) : Int := if pmZ S g = 0 then -1 else (it (bfF S g) (0, 11) 10).1
theorem bfF_rg (S : Sh) (g : Int) : ∀ n, (0 ≤ (it (bfF S g) (0, 11) n).1 ∧ (it (bfF S g) (0, 11) n).1 ≤ n) ∧ (0 ≤ (it (bfF S g) (0, 11) n).2 ∧ (it (bfF S g) (0, 11) n).2 ≤ 11) := by
  apply it_ind (I := fun (n : Nat) (x : Int × Int) => (0 ≤ x.1 ∧ x.1 ≤ (n : Int)) ∧ (0 ≤ x.2 ∧ x.2 ≤ 11))
  · decide
  · intro j x hx
    have := mlz_rg S g j (pmZ S g) 10
    unfold bfF
    split
    · dsimp only; omega
    · omega
theorem EX_rf {h : Hp} {c : Nat} : EX h h c := fun _ _ _ => rfl
theorem EX_tr {h h2 h3 : Hp} {c : Nat} (a : EX h h2 c) (b : EX h2 h3 c) : EX h h3 c := fun c' k hc => (b c' k hc).trans (a c' k hc)
theorem c_X5_bestFeel {b : Nat} {S : Sh} {g : Int} {h : Hp} {Q : Int → Hp → Prop} (hb : Shb b) (hR : RC b S h) (hW : WF S) (hg : 0 ≤ g ∧ g < S 6 0) (hq : ∀ h', EX h h' (ch b 10) → Q (bfZ S g) h') : CJ 3 kX5_bestFeel [.ref b, vi g] h Q := by
  have hnn := wf_n hW
  have hpm : 0 ≤ pmZ S g ∧ pmZ S g < 1024 := bsum_le (by decide)
  unfold bfZ at hq
  have key : ¬ pmZ S g = 0 → XJ none 3 kX5_bestFeel h 21 [some (.ref b), some (vi g), some (vi (pmZ S g)), some (vi 0), some (vi 11), some (vi 0), none] [] Q := by
    intro hp0
    rw [if_neg hp0] at hq
    refine down (P := fun j => ∀ h' : Hp, EX h h' (ch b 10) → XJ none 3 kX5_bestFeel h' 21 [some (.ref b), some (vi g), some (vi (pmZ S g)), some (vi (it (bfF S g) (0, 11) j).1), some (vi (it (bfF S g) (0, 11) j).2), some (vi j), none] [] Q) (n := 10) ?_ ?_ h EX_rf
    · intro h' hex
      refine xj_iload (pc2 := 23) dX5_bestFeel_21 rfl rfl ?_
      refine xj_bipush (pc2 := 25) dX5_bestFeel_23 rfl (by decide) ?_
      refine xj_cmp_gt (pc2 := 28) (tgt := 58) dX5_bestFeel_25 rfl rfl (by omega) (by omega) (fun c_25 => ?_) (fun c_25 => by exfalso; omega)
      refine xj_iload_n (pc2 := 59) dX5_bestFeel_58 rfl rfl rfl ?_
      refine xj_iret dX5_bestFeel_59 rfl ?_
      exact hq _ hex
    · intro j hj ih h' hex
      have hrr := bfF_rg S g j
      have hml := mlz_rg S g j (pmZ S g) 10
      simp only [it] at ih
      generalize hA : it (bfF S g) (0, 11) j = A at ih hrr ⊢
      obtain ⟨best, few⟩ := A
      rw [bfF] at ih
      dsimp only at ih hrr ⊢
      refine xj_iload (pc2 := 23) dX5_bestFeel_21 rfl rfl ?_
      refine xj_bipush (pc2 := 25) dX5_bestFeel_23 rfl (by decide) ?_
      refine xj_cmp_gt (pc2 := 28) (tgt := 58) dX5_bestFeel_25 rfl rfl (by omega) (by omega) (fun c_25 => by exfalso; omega) (fun c_25 => ?_)
      refine xj_aload_n (pc2 := 29) dX5_bestFeel_28 rfl rfl rfl ?_
      refine xj_iload_n (pc2 := 30) dX5_bestFeel_29 rfl rfl rfl ?_
      refine xj_iload_n (pc2 := 31) dX5_bestFeel_30 rfl rfl rfl ?_
      refine xj_iload (pc2 := 33) dX5_bestFeel_31 rfl rfl ?_
      refine xj_V3I (pc2 := 36) (d2 := 1) mok_X5_mostLeft ml_X5_123 ima_yX5_mostLeft sel_yX5_mostLeft rfl (ks hb) dX5_bestFeel_33 rfl rfl (by decide) (by decide) (Nat.le_of_ble_eq_true rfl) (fun _ => rfl) ?_
      refine c_X5_mostLeft hb (RC_ex hR hex) hW (by omega) (by omega) (by omega) ?_
      intro h2 hex2
      refine xj_istore6 (pc2 := 38) dX5_bestFeel_36 rfl (by decide) rfl ?_
      refine xj_iload (pc2 := 40) dX5_bestFeel_38 rfl rfl ?_
      refine xj_iload (pc2 := 42) dX5_bestFeel_40 rfl rfl ?_
      refine xj_cmp_ge (pc2 := 45) (tgt := 52) dX5_bestFeel_42 rfl rfl (by omega) (by omega) (fun c_42 => ?_) (fun c_42 => ?_)
      · -- 52
        rw [if_neg (by omega)] at ih
        refine xj_iinc5 (pc2 := 55) dX5_bestFeel_52 rfl (by decide) rfl ?_
        refine xj_goto (tgt := 21) dX5_bestFeel_55 rfl ?_
        exact xj_sub (by repeat (first | exact subL_nil | apply subL_none | apply subL_some rfl)) (ih _ (EX_tr hex hex2))
      · -- 45
        rw [if_pos (by omega)] at ih
        refine xj_iload (pc2 := 47) dX5_bestFeel_45 rfl rfl ?_
        refine xj_istore3 (pc2 := 48) dX5_bestFeel_47 rfl rfl (by decide) rfl ?_
        refine xj_iload (pc2 := 50) dX5_bestFeel_48 rfl rfl ?_
        refine xj_istore4 (pc2 := 52) dX5_bestFeel_50 rfl (by decide) rfl ?_
        refine xj_iinc5 (pc2 := 55) dX5_bestFeel_52 rfl (by decide) rfl ?_
        refine xj_goto (tgt := 21) dX5_bestFeel_55 rfl ?_
        exact xj_sub (by repeat (first | exact subL_nil | apply subL_none | apply subL_some rfl)) (ih _ (EX_tr hex hex2))
  refine cj_of (lo := [some (.ref b), some (vi g), none, none, none, none, none]) mok_X5_bestFeel (fun _ => rfl) (fun _ => Nat.le_of_ble_eq_true rfl) ?_
  refine xj_aload_n (pc2 := 1) dX5_bestFeel_0 rfl rfl rfl ?_
  refine xj_iload_n (pc2 := 2) dX5_bestFeel_1 rfl rfl rfl ?_
  refine xj_V1I (pc2 := 5) (d2 := 2) mok_X5_possibleMarks ml_X5_120 ima_yX5_possibleMarks sel_yX5_possibleMarks rfl (ks hb) dX5_bestFeel_2 rfl rfl (by decide) (by decide) (Nat.le_of_ble_eq_true rfl) (fun _ => rfl) ?_
  refine c_X5_possibleMarks hb hR hW (by omega) ?_
  refine xj_istore2 (pc2 := 6) dX5_bestFeel_5 rfl rfl (by decide) rfl ?_
  refine xj_iload_n (pc2 := 7) dX5_bestFeel_6 rfl rfl rfl ?_
  refine xj_if_ne (pc2 := 10) (tgt := 12) dX5_bestFeel_7 rfl rfl (by omega) (fun c_7 => ?_) (fun c_7 => ?_)
  · -- 12
    refine xj_iconst (pc2 := 13) dX5_bestFeel_12 rfl ?_
    refine xj_istore3 (pc2 := 14) dX5_bestFeel_13 rfl rfl (by decide) rfl ?_
    refine xj_bipush (pc2 := 16) dX5_bestFeel_14 rfl (by decide) ?_
    refine xj_istore4 (pc2 := 18) dX5_bestFeel_16 rfl (by decide) rfl ?_
    refine xj_iconst (pc2 := 19) dX5_bestFeel_18 rfl ?_
    refine xj_istore5 (pc2 := 21) dX5_bestFeel_19 rfl (by decide) rfl ?_
    exact key c_7
  · -- 10
    rw [if_pos c_7] at hq
    refine xj_iconst (pc2 := 11) dX5_bestFeel_10 rfl ?_
    refine xj_iret dX5_bestFeel_11 rfl ?_
    exact hq _ EX_rf
def moodN (S : Sh) (w : Int) : Int := moodZ S w (bsum (heldP S w) (nG S)) 0
theorem pc_cnt (x : Int) : pc x = cntz (fun g => memb x g) 10 := by
  have e : ∀ g : Nat, (if memb x (g : Int) = true then (1 : Int) else 0) = x / 2 ^ g % 2 := by
    intro g
    unfold memb
    rw [Int.toNat_natCast]
    have := Int.emod_two_eq (x / 2 ^ g)
    split
    · rename_i h; have := of_decide_eq_true h; omega
    · rename_i h; simp at h; omega
  unfold pc
  simp only [cntz, e]
  simp
theorem cntz_ext {p : Nat → Bool} {n : Nat} : ∀ k, (∀ j, n ≤ j → j < n + k → p j = false) → cntz p (n + k) = cntz p n
  | 0, _ => rfl
  | k + 1, h => by
    show cntz p (n + k) + (if p (n + k) then 1 else 0) = _
    rw [cntz_ext k (fun j h1 h2 => h j h1 (by omega)), h (n + k) (by omega) (by omega)]
    simp
theorem pc_bsum (p : Nat → Bool) {n : Nat} (hn : n ≤ 10) : pc (bsum p n) = cntz p n := by
  rw [pc_cnt]
  have e : ∀ g : Nat, memb (bsum p n) g = (decide (g < n) && p g) := by
    intro g
    have := bsum_mem p n g
    cases h : memb (bsum p n) g with
    | true =>
      have := (bsum_mem p n g).mp (memb_iff.mp h)
      simp [this]
    | false =>
      have h2 : ¬ mem (bsum p n) g := fun q => by rw [memb_iff.mpr q] at h; cases h
      have h3 : ¬ (g < n ∧ p g = true) := fun q => h2 ((bsum_mem p n g).mpr q)
      by_cases h4 : g < n
      · have : p g = false := by cases h5 : p g with
          | true => exact absurd ⟨h4, h5⟩ h3
          | false => rfl
        simp [this]
      · simp [h4]
  have e2 := cntz_ext (p := fun g => memb (bsum p n) (g : Int)) (n := n) (10 - n) (fun j h1 h2 => by rw [e]; simp; omega)
  rw [show n + (10 - n) = 10 by omega] at e2
  rw [e2]
  apply cntz_congr
  intro j hj
  rw [e]
  simp [hj]
theorem cntz_not {p : Nat → Bool} : ∀ n : Nat, (n : Int) - cntz p n = cntz (fun g => !(p g)) n
  | 0 => by simp [cntz]
  | n + 1 => by
    have := cntz_not (p := p) n
    unfold cntz
    cases h : p n <;> simp <;> omega
theorem cntz_t {q : Nat → Bool} {j : Nat} (h : q j = true) : cntz q (j + 1) = cntz q j + 1 := by
  show cntz q j + (if q j then 1 else 0) = _
  rw [if_pos h]
theorem cntz_f {q : Nat → Bool} {j : Nat} (h : q j = false) : cntz q (j + 1) = cntz q j := by
  show cntz q j + (if q j then 1 else 0) = _
  rw [h]
  simp
def onP (S : Sh) : Nat → Bool := fun g => !(heldP S (-1) g)
def doP (S : Sh) (x : Int) : Nat → Bool := fun w => decide (doz (moodN S w) = x)
def wiP (S : Sh) : Nat → Bool := fun w => wishZ S w (moodN S w)
theorem c_X5_countOnHands {b : Nat} {S : Sh} {h : Hp} {Q : Int → Hp → Prop} (hb : Shb b) (hR : RC b S h) (hW : WF S) (hq : Q (cntz (onP S) (nG S)) h) : CJ 2 kX5_countOnHands [.ref b] h Q := by
  obtain ⟨⟨hn, hw, hh, hs⟩, hG, hN, hE⟩ := id hR
  have hnn := wf_n hW
  have hng := nG_eq hW
  have hbs := bsum_le6 (p := heldP S (-1)) (n := nG S) (by omega)
  refine cj_of (lo := [some (.ref b)]) mok_X5_countOnHands (fun _ => rfl) (fun _ => Nat.le_of_ble_eq_true rfl) ?_
  refine xj_aload_n (pc2 := 1) dX5_countOnHands_0 rfl rfl rfl ?_
  refine xj_getI (pc2 := 4) (kz := 11) fok_X5_45 dX5_countOnHands_1 rfl rfl (ks hb) (by decide) rfl (by first | assumption | rfl) ?_
  refine xj_aload_n (pc2 := 5) dX5_countOnHands_4 rfl rfl rfl ?_
  refine xj_iconst (pc2 := 6) dX5_countOnHands_5 rfl ?_
  refine xj_V1I (pc2 := 9) (d2 := 1) mok_X5_heldBy ml_X5_103 ima_yX5_heldBy sel_yX5_heldBy rfl (ks hb) dX5_countOnHands_6 rfl rfl (by decide) (by decide) (Nat.le_of_ble_eq_true rfl) (fun _ => rfl) ?_
  refine c_X5_heldBy hb hR hW (by omega) ?_
  refine xj_S1I (pc2 := 12) (d2 := 0) mok_J6_bitCount_0f7a4 ml_X5_112 sta_yJ6_bitCount_0f7a4 dX5_countOnHands_9 rfl rfl (by decide) (by decide) (Nat.le_of_ble_eq_true rfl) (fun _ => rfl) ?_
  refine c_bitCount (by omega) ?_
  refine xj_isub (pc2 := 13) dX5_countOnHands_12 rfl ?_
  refine xj_iret dX5_countOnHands_13 rfl ?_
  exact q_eq (by rw [pc_bsum _ (by omega), ← hng]; exact cntz_not _) hq
theorem c_X5_countDoing {b : Nat} {S : Sh} {x : Int} {h : Hp} {Q : Int → Hp → Prop} (hb : Shb b) (hR : RC b S h) (hW : WF S) (hx : 0 ≤ x ∧ x ≤ 2) (hq : Q (cntz (doP S x) (nW S)) h) : CJ 4 kX5_countDoing [.ref b, vi x] h Q := by
  obtain ⟨⟨hn, hw, hh, hs⟩, hG, hN, hE⟩ := id hR
  have hnn := wf_n hW
  have hnw := nW_eq hW
  refine cj_of (lo := [some (.ref b), some (vi x), none, none]) mok_X5_countDoing (fun _ => rfl) (fun _ => Nat.le_of_ble_eq_true rfl) ?_
  refine xj_iconst (pc2 := 1) dX5_countDoing_0 rfl ?_
  refine xj_istore2 (pc2 := 2) dX5_countDoing_1 rfl rfl (by decide) rfl ?_
  refine xj_iconst (pc2 := 3) dX5_countDoing_2 rfl ?_
  refine xj_istore3 (pc2 := 4) dX5_countDoing_3 rfl rfl (by decide) rfl ?_
  refine down (P := fun j => XJ none 4 kX5_countDoing h 4 [some (.ref b), some (vi x), some (vi (cntz (doP S x) j)), some (vi j)] [] Q) (n := nW S) ?_ ?_
  · refine xj_iload_n (pc2 := 5) dX5_countDoing_4 rfl rfl rfl ?_
    refine xj_aload_n (pc2 := 6) dX5_countDoing_5 rfl rfl rfl ?_
    refine xj_getI (pc2 := 9) (kz := 12) fok_X5_49 dX5_countDoing_6 rfl rfl (ks hb) (by decide) rfl (by first | assumption | rfl) ?_
    refine xj_cmp_ge (pc2 := 12) (tgt := 34) dX5_countDoing_9 rfl rfl (by omega) (by omega) (fun c_9 => ?_) (fun c_9 => by exfalso; omega)
    refine xj_iload_n (pc2 := 35) dX5_countDoing_34 rfl rfl rfl ?_
    refine xj_iret dX5_countDoing_35 rfl ?_
    exact hq
  · intro j hj ih
    have hmr := moodZ_rg hW (w := (j : Int)) (b := bsum (heldP S j) (nG S)) (m := 0) (by omega) (by decide)
    have hdz := doz_rg (m := moodZ S j (bsum (heldP S j) (nG S)) 0)
    refine xj_iload_n (pc2 := 5) dX5_countDoing_4 rfl rfl rfl ?_
    refine xj_aload_n (pc2 := 6) dX5_countDoing_5 rfl rfl rfl ?_
    refine xj_getI (pc2 := 9) (kz := 12) fok_X5_49 dX5_countDoing_6 rfl rfl (ks hb) (by decide) rfl (by first | assumption | rfl) ?_
    refine xj_cmp_ge (pc2 := 12) (tgt := 34) dX5_countDoing_9 rfl rfl (by omega) (by omega) (fun c_9 => by exfalso; omega) (fun c_9 => ?_)
    refine xj_aload_n (pc2 := 13) dX5_countDoing_12 rfl rfl rfl ?_
    refine xj_iload_n (pc2 := 14) dX5_countDoing_13 rfl rfl rfl ?_
    refine xj_iconst (pc2 := 15) dX5_countDoing_14 rfl ?_
    refine xj_V2I (pc2 := 18) (d2 := 3) mok_X5_moodOf ml_X5_142 ima_yX5_moodOf sel_yX5_moodOf rfl (ks hb) dX5_countDoing_15 rfl rfl (by decide) (by decide) (Nat.le_of_ble_eq_true rfl) (fun _ => rfl) ?_
    refine c_X5_moodOf hb hR hW (by omega) (by omega) ?_
    refine xj_N1I (pc2 := 21) (d2 := 0) mok_X6_doing mn_X5_109 sta_yX6_doing dX5_countDoing_18 rfl rfl (by decide) (by decide) (Nat.le_of_ble_eq_true rfl) (fun _ => rfl) ?_
    refine c_X6_doing (by omega) ?_
    refine xj_iload_n (pc2 := 22) dX5_countDoing_21 rfl rfl rfl ?_
    refine xj_cmp_ne (pc2 := 25) (tgt := 28) dX5_countDoing_22 rfl rfl (by omega) (by omega) (fun c_22 => ?_) (fun c_22 => ?_)
    · -- 28
      rw [cntz_f (q := doP S x) (decide_eq_false c_22)] at ih
      refine xj_iinc3 (pc2 := 31) dX5_countDoing_28 rfl (by decide) rfl ?_
      refine xj_goto (tgt := 4) dX5_countDoing_31 rfl ?_
      exact ih
    · -- 25
      rw [cntz_t (q := doP S x) (decide_eq_true c_22)] at ih
      refine xj_iinc2 (pc2 := 28) dX5_countDoing_25 rfl (by decide) rfl ?_
      refine xj_iinc3 (pc2 := 31) dX5_countDoing_28 rfl (by decide) rfl ?_
      refine xj_goto (tgt := 4) dX5_countDoing_31 rfl ?_
      exact ih
theorem c_X5_countPleased {b : Nat} {S : Sh} {h : Hp} {Q : Int → Hp → Prop} (hb : Shb b) (hR : RC b S h) (hW : WF S) (hq : Q (cntz (wiP S) (nW S)) h) : CJ 4 kX5_countPleased [.ref b] h Q := by
  obtain ⟨⟨hn, hw, hh, hs⟩, hG, hN, hE⟩ := id hR
  have hnn := wf_n hW
  have hnw := nW_eq hW
  refine cj_of (lo := [some (.ref b), none, none]) mok_X5_countPleased (fun _ => rfl) (fun _ => Nat.le_of_ble_eq_true rfl) ?_
  refine xj_iconst (pc2 := 1) dX5_countPleased_0 rfl ?_
  refine xj_istore1 (pc2 := 2) dX5_countPleased_1 rfl rfl (by decide) rfl ?_
  refine xj_iconst (pc2 := 3) dX5_countPleased_2 rfl ?_
  refine xj_istore2 (pc2 := 4) dX5_countPleased_3 rfl rfl (by decide) rfl ?_
  refine down (P := fun j => XJ none 4 kX5_countPleased h 4 [some (.ref b), some (vi (cntz (wiP S) j)), some (vi j)] [] Q) (n := nW S) ?_ ?_
  · refine xj_iload_n (pc2 := 5) dX5_countPleased_4 rfl rfl rfl ?_
    refine xj_aload_n (pc2 := 6) dX5_countPleased_5 rfl rfl rfl ?_
    refine xj_getI (pc2 := 9) (kz := 12) fok_X5_49 dX5_countPleased_6 rfl rfl (ks hb) (by decide) rfl (by first | assumption | rfl) ?_
    refine xj_cmp_ge (pc2 := 12) (tgt := 35) dX5_countPleased_9 rfl rfl (by omega) (by omega) (fun c_9 => ?_) (fun c_9 => by exfalso; omega)
    refine xj_iload_n (pc2 := 36) dX5_countPleased_35 rfl rfl rfl ?_
    refine xj_iret dX5_countPleased_36 rfl ?_
    exact hq
  · intro j hj ih
    have hmr := moodZ_rg hW (w := (j : Int)) (b := bsum (heldP S j) (nG S)) (m := 0) (by omega) (by decide)
    refine xj_iload_n (pc2 := 5) dX5_countPleased_4 rfl rfl rfl ?_
    refine xj_aload_n (pc2 := 6) dX5_countPleased_5 rfl rfl rfl ?_
    refine xj_getI (pc2 := 9) (kz := 12) fok_X5_49 dX5_countPleased_6 rfl rfl (ks hb) (by decide) rfl (by first | assumption | rfl) ?_
    refine xj_cmp_ge (pc2 := 12) (tgt := 35) dX5_countPleased_9 rfl rfl (by omega) (by omega) (fun c_9 => by exfalso; omega) (fun c_9 => ?_)
    refine xj_aload_n (pc2 := 13) dX5_countPleased_12 rfl rfl rfl ?_
    refine xj_iload_n (pc2 := 14) dX5_countPleased_13 rfl rfl rfl ?_
    refine xj_aload_n (pc2 := 15) dX5_countPleased_14 rfl rfl rfl ?_
    refine xj_iload_n (pc2 := 16) dX5_countPleased_15 rfl rfl rfl ?_
    refine xj_iconst (pc2 := 17) dX5_countPleased_16 rfl ?_
    refine xj_V2I (pc2 := 20) (d2 := 3) mok_X5_moodOf ml_X5_142 ima_yX5_moodOf sel_yX5_moodOf rfl (ks hb) dX5_countPleased_17 rfl rfl (by decide) (by decide) (Nat.le_of_ble_eq_true rfl) (fun _ => rfl) ?_
    refine c_X5_moodOf hb hR hW (by omega) (by omega) ?_
    refine xj_V2I (pc2 := 23) (d2 := 1) mok_X5_pleases ml_X5_145 ima_yX5_pleases sel_yX5_pleases rfl (ks hb) dX5_countPleased_20 rfl rfl (by decide) (by decide) (Nat.le_of_ble_eq_true rfl) (fun _ => rfl) ?_
    refine c_X5_pleases hb hR hW (by omega) (by omega) ?_ ?_
    · -- X5_pleases = 1
      intro c_20
      rw [cntz_t (q := wiP S) c_20] at ih
      refine xj_if_eq (pc2 := 26) (tgt := 29) dX5_countPleased_23 rfl rfl (by omega) (fun c_23 => absurd c_23 (by decide)) (fun c_23 => ?_)
      refine xj_iinc1 (pc2 := 29) dX5_countPleased_26 rfl (by decide) rfl ?_
      refine xj_iinc2 (pc2 := 32) dX5_countPleased_29 rfl (by decide) rfl ?_
      refine xj_goto (tgt := 4) dX5_countPleased_32 rfl ?_
      exact ih
    · -- X5_pleases = 0
      intro c_20
      rw [cntz_f (q := wiP S) (Bool.eq_false_iff.mpr c_20)] at ih
      refine xj_if_eq (pc2 := 26) (tgt := 29) dX5_countPleased_23 rfl rfl (by omega) (fun c_23 => ?_) (fun c_23 => absurd c_23 (by decide))
      refine xj_iinc2 (pc2 := 32) dX5_countPleased_29 rfl (by decide) rfl ?_
      refine xj_goto (tgt := 4) dX5_countPleased_32 rfl ?_
      exact ih
theorem c_X5_countQuarrels {b : Nat} {S : Sh} {h : Hp} {Q : Int → Hp → Prop} (hb : Shb b) (hR : RC b S h) (hW : WF S) (hq : Q (ssum (fun g => pc (bsum (quarP S g) (nG S))) (nG S) / 2) h) : CJ 3 kX5_countQuarrels [.ref b] h Q := by
  obtain ⟨⟨hn, hw, hh, hs⟩, hG, hN, hE⟩ := id hR
  have hnn := wf_n hW
  have hng := nG_eq hW
  refine cj_of (lo := [some (.ref b), none, none]) mok_X5_countQuarrels (fun _ => rfl) (fun _ => Nat.le_of_ble_eq_true rfl) ?_
  refine xj_iconst (pc2 := 1) dX5_countQuarrels_0 rfl ?_
  refine xj_istore1 (pc2 := 2) dX5_countQuarrels_1 rfl rfl (by decide) rfl ?_
  refine xj_iconst (pc2 := 3) dX5_countQuarrels_2 rfl ?_
  refine xj_istore2 (pc2 := 4) dX5_countQuarrels_3 rfl rfl (by decide) rfl ?_
  refine down (P := fun j => XJ none 3 kX5_countQuarrels h 4 [some (.ref b), some (vi (ssum (fun g => pc (bsum (quarP S g) (nG S))) j)), some (vi j)] [] Q) (n := nG S) ?_ ?_
  · have hsr := ssum_rg (f := fun g : Nat => pc (bsum (quarP S g) (nG S))) (a := 0) (b := 10) (by decide) (by decide) (nG S) (fun j hj => pc_rg)
    refine xj_iload_n (pc2 := 5) dX5_countQuarrels_4 rfl rfl rfl ?_
    refine xj_aload_n (pc2 := 6) dX5_countQuarrels_5 rfl rfl rfl ?_
    refine xj_getI (pc2 := 9) (kz := 11) fok_X5_45 dX5_countQuarrels_6 rfl rfl (ks hb) (by decide) rfl (by first | assumption | rfl) ?_
    refine xj_cmp_ge (pc2 := 12) (tgt := 29) dX5_countQuarrels_9 rfl rfl (by omega) (by omega) (fun c_9 => ?_) (fun c_9 => by exfalso; omega)
    refine xj_iload_n (pc2 := 30) dX5_countQuarrels_29 rfl rfl rfl ?_
    refine xj_iconst (pc2 := 31) dX5_countQuarrels_30 rfl ?_
    refine xj_idiv (pc2 := 32) dX5_countQuarrels_31 rfl (by omega) (by omega) ?_
    refine xj_iret dX5_countQuarrels_32 rfl ?_
    exact hq
  · intro j hj ih
    have hbs := bsum_le6 (p := quarP S j) (n := nG S) (by omega)
    refine xj_iload_n (pc2 := 5) dX5_countQuarrels_4 rfl rfl rfl ?_
    refine xj_aload_n (pc2 := 6) dX5_countQuarrels_5 rfl rfl rfl ?_
    refine xj_getI (pc2 := 9) (kz := 11) fok_X5_45 dX5_countQuarrels_6 rfl rfl (ks hb) (by decide) rfl (by first | assumption | rfl) ?_
    refine xj_cmp_ge (pc2 := 12) (tgt := 29) dX5_countQuarrels_9 rfl rfl (by omega) (by omega) (fun c_9 => by exfalso; omega) (fun c_9 => ?_)
    refine xj_iload_n (pc2 := 13) dX5_countQuarrels_12 rfl rfl rfl ?_
    refine xj_aload_n (pc2 := 14) dX5_countQuarrels_13 rfl rfl rfl ?_
    refine xj_iload_n (pc2 := 15) dX5_countQuarrels_14 rfl rfl rfl ?_
    refine xj_V1I (pc2 := 18) (d2 := 2) mok_X5_quarrels ml_X5_148 ima_yX5_quarrels sel_yX5_quarrels rfl (ks hb) dX5_countQuarrels_15 rfl rfl (by decide) (by decide) (Nat.le_of_ble_eq_true rfl) (fun _ => rfl) ?_
    refine c_X5_quarrels hb hR hW (by omega) ?_
    refine xj_S1I (pc2 := 21) (d2 := 0) mok_J6_bitCount_0f7a4 ml_X5_112 sta_yJ6_bitCount_0f7a4 dX5_countQuarrels_18 rfl rfl (by decide) (by decide) (Nat.le_of_ble_eq_true rfl) (fun _ => rfl) ?_
    refine c_bitCount (by omega) ?_
    refine xj_iadd (pc2 := 22) dX5_countQuarrels_21 rfl ?_
    refine xj_istore1 (pc2 := 23) dX5_countQuarrels_22 rfl rfl (by decide) rfl ?_
    refine xj_iinc2 (pc2 := 26) dX5_countQuarrels_23 rfl (by decide) rfl ?_
    refine xj_goto (tgt := 4) dX5_countQuarrels_26 rfl ?_
    exact ih
theorem c_X5_sumOfTempers {b : Nat} {S : Sh} {h : Hp} {Q : Int → Hp → Prop} (hb : Shb b) (hR : RC b S h) (hW : WF S) (hq : Q (ssum (fun g => tz S g 0) (nG S)) h) : CJ 2 kX5_sumOfTempers [.ref b] h Q := by
  obtain ⟨⟨hn, hw, hh, hs⟩, hG, hN, hE⟩ := id hR
  have hnn := wf_n hW
  have hng := nG_eq hW
  refine cj_of (lo := [some (.ref b), none, none]) mok_X5_sumOfTempers (fun _ => rfl) (fun _ => Nat.le_of_ble_eq_true rfl) ?_
  refine xj_iconst (pc2 := 1) dX5_sumOfTempers_0 rfl ?_
  refine xj_istore1 (pc2 := 2) dX5_sumOfTempers_1 rfl rfl (by decide) rfl ?_
  refine xj_iconst (pc2 := 3) dX5_sumOfTempers_2 rfl ?_
  refine xj_istore2 (pc2 := 4) dX5_sumOfTempers_3 rfl rfl (by decide) rfl ?_
  refine down (P := fun j => XJ none 2 kX5_sumOfTempers h 4 [some (.ref b), some (vi (ssum (fun g => tz S g 0) j)), some (vi j)] [] Q) (n := nG S) ?_ ?_
  · refine xj_iload_n (pc2 := 5) dX5_sumOfTempers_4 rfl rfl rfl ?_
    refine xj_aload_n (pc2 := 6) dX5_sumOfTempers_5 rfl rfl rfl ?_
    refine xj_getI (pc2 := 9) (kz := 11) fok_X5_45 dX5_sumOfTempers_6 rfl rfl (ks hb) (by decide) rfl (by first | assumption | rfl) ?_
    refine xj_cmp_ge (pc2 := 12) (tgt := 27) dX5_sumOfTempers_9 rfl rfl (by omega) (by omega) (fun c_9 => ?_) (fun c_9 => by exfalso; omega)
    refine xj_iload_n (pc2 := 28) dX5_sumOfTempers_27 rfl rfl rfl ?_
    refine xj_iret dX5_sumOfTempers_28 rfl ?_
    exact hq
  · intro j hj ih
    refine xj_iload_n (pc2 := 5) dX5_sumOfTempers_4 rfl rfl rfl ?_
    refine xj_aload_n (pc2 := 6) dX5_sumOfTempers_5 rfl rfl rfl ?_
    refine xj_getI (pc2 := 9) (kz := 11) fok_X5_45 dX5_sumOfTempers_6 rfl rfl (ks hb) (by decide) rfl (by first | assumption | rfl) ?_
    refine xj_cmp_ge (pc2 := 12) (tgt := 27) dX5_sumOfTempers_9 rfl rfl (by omega) (by omega) (fun c_9 => by exfalso; omega) (fun c_9 => ?_)
    refine xj_iload_n (pc2 := 13) dX5_sumOfTempers_12 rfl rfl rfl ?_
    refine xj_aload_n (pc2 := 14) dX5_sumOfTempers_13 rfl rfl rfl ?_
    refine xj_iload_n (pc2 := 15) dX5_sumOfTempers_14 rfl rfl rfl ?_
    refine xj_iconst (pc2 := 16) dX5_sumOfTempers_15 rfl ?_
    refine xj_V2I (pc2 := 19) (d2 := 1) mok_X5_temper ml_X5_84 ima_yX5_temper sel_yX5_temper rfl (ks hb) dX5_sumOfTempers_16 rfl rfl (by decide) (by decide) (Nat.le_of_ble_eq_true rfl) (fun _ => rfl) ?_
    refine c_X5_temper hb hR hW (by omega) (by omega) ?_
    refine xj_iadd (pc2 := 20) dX5_sumOfTempers_19 rfl ?_
    refine xj_istore1 (pc2 := 21) dX5_sumOfTempers_20 rfl rfl (by decide) rfl ?_
    refine xj_iinc2 (pc2 := 24) dX5_sumOfTempers_21 rfl (by decide) rfl ?_
    refine xj_goto (tgt := 4) dX5_sumOfTempers_24 rfl ?_
    exact ih
