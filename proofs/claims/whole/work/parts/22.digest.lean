/-! the class's digest -/
def digG (S : Sh) (g : Int) (a : Int) : Int := it (fun x a => 31 * a + gloveZ S g x) a 9
def digW (S : Sh) (w : Int) (a : Int) : Int := 31 * (31 * (31 * it (fun x a => 31 * a + wearerZ S w x) a 9 + moodV S w 5) + oddsZ S w 4 6 0) + oddsZ S w 4 6 1
def digB (S : Sh) (a : Int) : Int := it (fun g a => 31 * a + bestB S g) (31 * a + (bA S).1) 6
def dg1 (S : Sh) : Int := it (fun g a => digG S g a) 1237 (nG S)
def dg2 (S : Sh) : Int := it (fun w a => digW S w a) (dg1 S) (nW S)
def dg3 (S : Sh) : Int := if 0 < S 6 0 then digB S (dg2 S) else dg2 S
def dg4 (S : Sh) (len : Int) (pg : Int → Int) : Int := it (fun k a => 31 * a + pg k) (dg3 S) len.toNat
def dgZ (S : Sh) (len : Int) (pg : Int → Int) (tr td : Int) : Int := it (fun x a => 31 * a + countZ S len tr td x) (dg4 S len pg) 13
theorem bfZ_rg (S : Sh) (g : Int) : -1 ≤ bfZ S g ∧ bfZ S g ≤ 10 := by
  have := bfF_rg S g 10
  unfold bfZ
  split <;> omega
theorem gloveZ_rg {S : Sh} (hW : WF S) (g x : Int) : -1024 ≤ gloveZ S g x ∧ gloveZ S g x ≤ 1024 := by
  unfold gloveZ
  by_cases h : 0 ≤ g ∧ g < S 6 0
  · have h1 := wf_g hW h
    have h2 := tz_rg hW h (m := 0) (by decide)
    have h3 := hold_b hW h
    have h4 := side_b hW h
    have h5 := bsum_le (p := quarP S g) (n := nG S) (by have := nG_eq hW; have := wf_n hW; omega)
    have h6 : 0 ≤ pmZ S g ∧ pmZ S g < 1024 := bsum_le (by decide)
    have h7 := bfZ_rg S g
    rw [if_neg (fun q => q h)]
    (repeat' split) <;> omega
  · rw [if_pos h]; decide
theorem goZ_rg {S : Sh} (hW : WF S) (x : Int) : -1 ≤ goZ S x ∧ goZ S x ≤ 6 := by
  have := wf_n hW
  rcases goZ_spec hW x with h | h <;> omega
theorem stZ_rg {S : Sh} (hW : WF S) (w : Int) : -1 ≤ stZ S w ∧ stZ S w < 64 := by
  have h1 := stF_rg S w (2 ^ nG S)
  have h2 := pow_le6 (n := nG S) (by have := nG_eq hW; have := wf_n hW; omega)
  unfold stZ
  omega
theorem cgZ_rg (S : Sh) (w : Int) : -1 ≤ cgZ S w ∧ cgZ S w ≤ 10 := by
  have := pc_rg (x := bxor (stZ S w) (bsum (heldP S w) (nG S)))
  unfold cgZ
  split <;> omega
theorem wearerZ_rg {S : Sh} (hW : WF S) (w x : Int) : -1024 ≤ wearerZ S w x ∧ wearerZ S w x ≤ 1024 := by
  unfold wearerZ
  by_cases h : 0 ≤ w ∧ w < S 6 1
  · have h1 := wf_w hW h
    have h2 : 0 ≤ moodN S w ∧ moodN S w ≤ 66 := moodZ_rg hW h (by decide)
    have h3 := goZ_rg hW (2 * w + 0)
    have h4 := goZ_rg hW (2 * w + 1)
    have h5 := doz_rg (m := moodN S w)
    have h6 := stZ_rg hW w
    have h7 := cgZ_rg S w
    have h8 : 0 ≤ wishN S w ∧ wishN S w ≤ 1 := by unfold wishN; split <;> decide
    rw [if_neg (fun q => q h)]
    (repeat' split) <;> omega
  · rw [if_pos h]; decide
theorem moodV_rg {S : Sh} (hW : WF S) (w t : Int) : -1024 ≤ moodV S w t ∧ moodV S w t ≤ 1024 := by
  unfold moodV
  by_cases h : 0 ≤ w ∧ w < S 6 1
  · rw [if_neg (fun q => q h)]
    by_cases h2 : 0 ≤ t ∧ t ≤ 40
    · rw [if_neg (fun q => q h2)]
      have := moodZ_rg hW (b := bsum (heldP S w) (nG S)) h h2.1
      omega
    · rw [if_pos h2]; decide
  · rw [if_pos h]; decide
theorem oddsZ_rg (S : Sh) (w n t x : Int) : -1024 ≤ oddsZ S w n t x ∧ oddsZ S w n t x ≤ 100000000 := by
  unfold oddsZ
  by_cases h : 0 ≤ w ∧ w < S 6 1
  · rw [if_neg (fun q => q h)]
    by_cases h2 : (1 ≤ n ∧ n ≤ 8) ∧ (0 ≤ t ∧ t ≤ 10) ∧ (0 ≤ x ∧ x ≤ 1)
    · rw [if_neg (fun q => q h2)]
      have har := oddA_rg (S := S) (w := w) (n := n.toNat) (by omega) h2.2.1
      have hp10 := pow10 (n := n.toNat) (by omega)
      have hgr := gcz_rg (a := oddA S w n.toNat t) (b := 10 ^ n.toNat) har.1 (by omega)
      have e1 : 0 ≤ oddA S w n.toNat t / gcz (oddA S w n.toNat t) (10 ^ n.toNat) := Int.ediv_nonneg har.1 (by omega)
      have e2 : oddA S w n.toNat t / gcz (oddA S w n.toNat t) (10 ^ n.toNat) ≤ oddA S w n.toNat t := Int.ediv_le_self _ har.1
      have e3 : 0 ≤ (10 : Int) ^ n.toNat / gcz (oddA S w n.toNat t) (10 ^ n.toNat) := Int.ediv_nonneg (by omega) (by omega)
      have e4 : (10 : Int) ^ n.toNat / gcz (oddA S w n.toNat t) (10 ^ n.toNat) ≤ 10 ^ n.toNat := Int.ediv_le_self _ (by omega)
      split <;> omega
    · rw [if_pos h2]; decide
  · rw [if_pos h]; decide
theorem foldB_mem {S : Sh} : ∀ (l : List Rw) (a : Ab), (l.foldl (fun a r => lfB S r a) a).2 = a.2 ∨ (l.foldl (fun a r => lfB S r a) a).2 ∈ l
  | [], a => Or.inl rfl
  | r :: l, a => by
    rw [List.foldl_cons]
    rcases foldB_mem l (lfB S r a) with h | h
    · rw [h]
      unfold lfB
      split
      · exact Or.inr List.mem_cons_self
      · exact Or.inl rfl
    · exact Or.inr (List.mem_cons_of_mem _ h)
theorem foldB_nn {S : Sh} : ∀ (l : List Rw) (a : Ab), 0 ≤ a.1 → 0 ≤ (l.foldl (fun a r => lfB S r a) a).1
  | [], a, h => h
  | r :: l, a, h => by
    refine foldB_nn l (lfB S r a) ?_
    unfold lfB
    split
    · dsimp only; omega
    · exact h
theorem bA_nn (S : Sh) : 0 ≤ (bA S).1 := by
  rw [bA_list]
  exact foldB_nn _ _ (by decide)
theorem bestB_rg {S : Sh} (hW : WF S) {y : Int} (hy : 0 ≤ y) : -1 ≤ bestB S y ∧ bestB S y ≤ 6 := by
  have hnn := wf_n hW
  have hng := nG_eq hW
  unfold bestB
  split
  · rename_i hlt
    have hb : (bA S).2 y.toNat ≤ 6 := by
      rw [bA_list]
      rcases foldB_mem (S := S) (Rk (nG S) mxA (nG S) r0) (7, r0) with h | h
      · rw [h]; exact Nat.zero_le _
      · have h1 := Rk_lim limB_P (nG S) r0 (Nat.le_refl _) (fun i _ => Nat.zero_le _) _ h
        have h2 := h1 y.toNat (by omega)
        have h3 := mxA_le h1 y.toNat (by omega)
        omega
    omega
  · decide
theorem countZ_rg {S I : Sh} {len im tr td : Int} (hKW : KW S I im tr td) (hl : 0 ≤ len ∧ len ≤ 26) (x : Int) : -1024 ≤ countZ S len tr td x ∧ countZ S len tr td x ≤ 1000000 := by
  have hW := hKW.1
  have hnn := wf_n hW
  have hng := nG_eq hW
  have hnw := nW_eq hW
  have h1 := cntz_rg (q := onP S) (nG S)
  have h2 := cntz_rg (q := doP S 1) (nW S)
  have h3 := cntz_rg (q := doP S 0) (nW S)
  have h4 := cntz_rg (q := wiP S) (nW S)
  have h5 := ssum_rg (f := fun g : Nat => pc (bsum (quarP S g) (nG S))) (a := 0) (b := 10) (by decide) (by decide) (nG S) (fun j hj => pc_rg)
  have h6 := ssum_rg (f := fun g : Nat => tz S g 0) (a := 0) (b := 9) (by decide) (by decide) (nG S) (fun j hj => tz_rgn hW (by decide) j hj)
  obtain ⟨-, k1, -, -, k2, k3⟩ := hKW
  unfold countZ
  (repeat' split) <;> omega
theorem c_X6_digestOfWearer {S I : Sh} {len w a : Int} {pg : Int → Int} {im tr td : Int} {h : Hp} {Q : Int → Hp → Prop} (hK : KC S I len pg im tr td h) (hKW : KW S I im tr td) (hw0 : -2147483648 ≤ w ∧ w ≤ 2147483647) (hq : ∀ h', KC S I len pg im tr td h' → FrC h h' → Q (digW S w a) h') : CJ 5 kX6_digestOfWearer [.ref 0, vl a, vi w] h Q := by
  have hW := hKW.1
  refine cj_of (lo := [some (.ref 0), some (vl a), none, some (vi w), none, none, none]) mok_X6_digestOfWearer (fun _ => rfl) (fun _ => Nat.le_of_ble_eq_true rfl) ?_
  refine xj_lload_n (pc2 := 1) dX6_digestOfWearer_0 rfl rfl rfl ?_
  refine xj_lstore4 (pc2 := 3) dX6_digestOfWearer_1 rfl (by decide) rfl ?_
  refine xj_iconst (pc2 := 4) dX6_digestOfWearer_3 rfl ?_
  refine xj_istore6 (pc2 := 6) dX6_digestOfWearer_4 rfl (by decide) rfl ?_
  refine down (P := fun j => ∀ h' : Hp, KC S I len pg im tr td h' → FrC h h' → XJ none 5 kX6_digestOfWearer h' 6 [some (.ref 0), some (vl a), none, some (vi w), some (vl (it (fun x a => 31 * a + wearerZ S w x) a j)), none, some (vi j)] [] Q) (n := 9) ?_ ?_ h hK FrC_rf
  · intro h' hK hF
    have r1 := moodV_rg hW w 5
    have r2 := oddsZ_rg S w 4 6 0
    have r3 := oddsZ_rg S w 4 6 1
    refine xj_iload (pc2 := 8) dX6_digestOfWearer_6 rfl rfl ?_
    refine xj_bipush (pc2 := 10) dX6_digestOfWearer_8 rfl (by decide) ?_
    refine xj_cmp_gt (pc2 := 13) (tgt := 36) dX6_digestOfWearer_10 rfl rfl (by omega) (by omega) (fun c_10 => ?_) (fun c_10 => by exfalso; omega)
    refine xj_ldc2 (pc2 := 39) (n := 31) dX6_digestOfWearer_36 rfl k_X6_252 rfl ?_
    refine xj_lload (pc2 := 41) dX6_digestOfWearer_39 rfl rfl ?_
    refine xj_lmul (pc2 := 42) dX6_digestOfWearer_41 rfl ?_
    refine xj_aload_n (pc2 := 43) dX6_digestOfWearer_42 rfl rfl rfl ?_
    refine xj_iload_n (pc2 := 44) dX6_digestOfWearer_43 rfl rfl rfl ?_
    refine xj_iconst (pc2 := 45) dX6_digestOfWearer_44 rfl ?_
    refine xj_V2I (pc2 := 48) (d2 := 4) mok_X6_mood ml_X6_274 ima_yX6_mood sel_yX6_mood rfl rfl dX6_digestOfWearer_45 rfl rfl (by decide) (by decide) (Nat.le_of_ble_eq_true rfl) (fun _ => rfl) ?_
    refine c_X6_mood hK hKW (by omega) (by omega) ?_
    intro h2 hK2 hF2
    refine xj_i2l (pc2 := 49) dX6_digestOfWearer_48 rfl (by omega) ?_
    refine xj_ladd (pc2 := 50) dX6_digestOfWearer_49 rfl ?_
    refine xj_lstore4 (pc2 := 52) dX6_digestOfWearer_50 rfl (by decide) rfl ?_
    refine xj_ldc2 (pc2 := 55) (n := 31) dX6_digestOfWearer_52 rfl k_X6_252 rfl ?_
    refine xj_lload (pc2 := 57) dX6_digestOfWearer_55 rfl rfl ?_
    refine xj_lmul (pc2 := 58) dX6_digestOfWearer_57 rfl ?_
    refine xj_aload_n (pc2 := 59) dX6_digestOfWearer_58 rfl rfl rfl ?_
    refine xj_iload_n (pc2 := 60) dX6_digestOfWearer_59 rfl rfl rfl ?_
    refine xj_iconst (pc2 := 61) dX6_digestOfWearer_60 rfl ?_
    refine xj_bipush (pc2 := 63) dX6_digestOfWearer_61 rfl (by decide) ?_
    refine xj_iconst (pc2 := 64) dX6_digestOfWearer_63 rfl ?_
    refine xj_V4I (pc2 := 67) (d2 := 4) mok_X6_odds ml_X6_277 ima_yX6_odds sel_yX6_odds rfl rfl dX6_digestOfWearer_64 rfl rfl (by decide) (by decide) (Nat.le_of_ble_eq_true rfl) (fun _ => rfl) ?_
    refine c_X6_odds hK2 hKW (by omega) (by omega) (by omega) (by omega) ?_
    intro h3 hK3 hF3
    refine xj_i2l (pc2 := 68) dX6_digestOfWearer_67 rfl (by omega) ?_
    refine xj_ladd (pc2 := 69) dX6_digestOfWearer_68 rfl ?_
    refine xj_lstore4 (pc2 := 71) dX6_digestOfWearer_69 rfl (by decide) rfl ?_
    refine xj_ldc2 (pc2 := 74) (n := 31) dX6_digestOfWearer_71 rfl k_X6_252 rfl ?_
    refine xj_lload (pc2 := 76) dX6_digestOfWearer_74 rfl rfl ?_
    refine xj_lmul (pc2 := 77) dX6_digestOfWearer_76 rfl ?_
    refine xj_aload_n (pc2 := 78) dX6_digestOfWearer_77 rfl rfl rfl ?_
    refine xj_iload_n (pc2 := 79) dX6_digestOfWearer_78 rfl rfl rfl ?_
    refine xj_iconst (pc2 := 80) dX6_digestOfWearer_79 rfl ?_
    refine xj_bipush (pc2 := 82) dX6_digestOfWearer_80 rfl (by decide) ?_
    refine xj_iconst (pc2 := 83) dX6_digestOfWearer_82 rfl ?_
    refine xj_V4I (pc2 := 86) (d2 := 4) mok_X6_odds ml_X6_277 ima_yX6_odds sel_yX6_odds rfl rfl dX6_digestOfWearer_83 rfl rfl (by decide) (by decide) (Nat.le_of_ble_eq_true rfl) (fun _ => rfl) ?_
    refine c_X6_odds hK3 hKW (by omega) (by omega) (by omega) (by omega) ?_
    intro h4 hK4 hF4
    refine xj_i2l (pc2 := 87) dX6_digestOfWearer_86 rfl (by omega) ?_
    refine xj_ladd (pc2 := 88) dX6_digestOfWearer_87 rfl ?_
    refine xj_lret dX6_digestOfWearer_88 rfl ?_
    exact hq _ hK4 (FrC_tr (FrC_tr (FrC_tr hF hF2) hF3) hF4)
  · intro j hj ih h' hK hF
    have r1 := wearerZ_rg hW w j
    refine xj_iload (pc2 := 8) dX6_digestOfWearer_6 rfl rfl ?_
    refine xj_bipush (pc2 := 10) dX6_digestOfWearer_8 rfl (by decide) ?_
    refine xj_cmp_gt (pc2 := 13) (tgt := 36) dX6_digestOfWearer_10 rfl rfl (by omega) (by omega) (fun c_10 => by exfalso; omega) (fun c_10 => ?_)
    refine xj_ldc2 (pc2 := 16) (n := 31) dX6_digestOfWearer_13 rfl k_X6_252 rfl ?_
    refine xj_lload (pc2 := 18) dX6_digestOfWearer_16 rfl rfl ?_
    refine xj_lmul (pc2 := 19) dX6_digestOfWearer_18 rfl ?_
    refine xj_aload_n (pc2 := 20) dX6_digestOfWearer_19 rfl rfl rfl ?_
    refine xj_iload_n (pc2 := 21) dX6_digestOfWearer_20 rfl rfl rfl ?_
    refine xj_iload (pc2 := 23) dX6_digestOfWearer_21 rfl rfl ?_
    refine xj_V2I (pc2 := 26) (d2 := 4) mok_X6_wearer ml_X6_271 ima_yX6_wearer sel_yX6_wearer rfl rfl dX6_digestOfWearer_23 rfl rfl (by decide) (by decide) (Nat.le_of_ble_eq_true rfl) (fun _ => rfl) ?_
    refine c_X6_wearer hK hKW (by omega) (by omega) ?_
    intro h9 hK9 hF9
    refine xj_i2l (pc2 := 27) dX6_digestOfWearer_26 rfl (by omega) ?_
    refine xj_ladd (pc2 := 28) dX6_digestOfWearer_27 rfl ?_
    refine xj_lstore4 (pc2 := 30) dX6_digestOfWearer_28 rfl (by decide) rfl ?_
    refine xj_iinc6 (pc2 := 33) dX6_digestOfWearer_30 rfl (by decide) rfl ?_
    refine xj_goto (tgt := 6) dX6_digestOfWearer_33 rfl ?_
    exact ih _ hK9 (FrC_tr hF hF9)
theorem c_X6_digestOfBoxes {S I : Sh} {len a : Int} {pg : Int → Int} {im tr td : Int} {h : Hp} {Q : Int → Hp → Prop} (hK : KC S I len pg im tr td h) (hKW : KW S I im tr td) (hq : ∀ h', KC S I len pg im tr td h' → FrC h h' → Q (digB S a) h') : CJ 9 kX6_digestOfBoxes [.ref 0, vl a] h Q := by
  have hW := hKW.1
  have hnn := wf_n hW
  have hng := nG_eq hW
  have hR := hK.1
  have r1 := bA_nn S
  have r2 := bA_rg (S := S) (by omega)
  refine cj_of (lo := [some (.ref 0), some (vl a), none, none, none, none]) mok_X6_digestOfBoxes (fun _ => rfl) (fun _ => Nat.le_of_ble_eq_true rfl) ?_
  refine xj_aload_n (pc2 := 1) dX6_digestOfBoxes_0 rfl rfl rfl ?_
  refine xj_getRn (pc2 := 4) (c2 := 6) fok_X6_39 dX6_digestOfBoxes_1 rfl rfl rfl rfl rfl ?_
  refine xj_aload_n (pc2 := 5) dX6_digestOfBoxes_4 rfl rfl rfl ?_
  refine xj_getRn (pc2 := 8) (c2 := 2) fok_X6_19 dX6_digestOfBoxes_5 rfl rfl rfl rfl rfl ?_
  refine xj_V1V (pc2 := 11) (d2 := 8) mok_X3_find ml_X6_198 ima_yX3_find sel_yX3_find rfl rfl dX6_digestOfBoxes_8 rfl rfl (by decide) (by decide) (Nat.le_of_ble_eq_true rfl) (fun _ => rfl) ?_
  refine c_X3_find hR hW ?_
  intro h2 hB1 hB2
  have hK2 := KC_eq hK (fun c k hc => hB2 c k (by unfold LC at hc; omega) (by unfold LC at hc; omega) (by unfold LC at hc; omega) (by unfold LC at hc; omega) (by unfold LC at hc; omega))
  have hF2 : FrC h h2 := fun c k hc => (hB2 c k (by omega) (by omega) (by omega) (by omega) (by omega))
  obtain ⟨d1, d3⟩ := hB1
  refine xj_ldc2 (pc2 := 14) (n := 31) dX6_digestOfBoxes_11 rfl k_X6_252 rfl ?_
  refine xj_lload_n (pc2 := 15) dX6_digestOfBoxes_14 rfl rfl rfl ?_
  refine xj_lmul (pc2 := 16) dX6_digestOfBoxes_15 rfl ?_
  refine xj_aload_n (pc2 := 17) dX6_digestOfBoxes_16 rfl rfl rfl ?_
  refine xj_getRn (pc2 := 20) (c2 := 6) fok_X6_39 dX6_digestOfBoxes_17 rfl rfl rfl rfl rfl ?_
  refine xj_getI (pc2 := 23) (kz := 4) fok_X6_199 dX6_digestOfBoxes_20 rfl rfl rfl (by decide) rfl (by first | assumption | rfl) ?_
  refine xj_i2l (pc2 := 24) dX6_digestOfBoxes_23 rfl (by omega) ?_
  refine xj_ladd (pc2 := 25) dX6_digestOfBoxes_24 rfl ?_
  refine xj_lstore3 (pc2 := 26) dX6_digestOfBoxes_25 rfl rfl (by decide) rfl ?_
  refine xj_iconst (pc2 := 27) dX6_digestOfBoxes_26 rfl ?_
  refine xj_istore5 (pc2 := 29) dX6_digestOfBoxes_27 rfl (by decide) rfl ?_
  refine down (P := fun j => XJ none 9 kX6_digestOfBoxes h2 29 [some (.ref 0), some (vl a), none, some (vl (it (fun g a => 31 * a + bestB S g) (31 * a + (bA S).1) j)), none, some (vi j)] [] Q) (n := 6) ?_ ?_
  · refine xj_iload (pc2 := 31) dX6_digestOfBoxes_29 rfl rfl ?_
    refine xj_bipush (pc2 := 33) dX6_digestOfBoxes_31 rfl (by decide) ?_
    refine xj_cmp_ge (pc2 := 36) (tgt := 62) dX6_digestOfBoxes_33 rfl rfl (by omega) (by omega) (fun c_33 => ?_) (fun c_33 => by exfalso; omega)
    refine xj_lload_n (pc2 := 63) dX6_digestOfBoxes_62 rfl rfl rfl ?_
    refine xj_lret dX6_digestOfBoxes_63 rfl ?_
    exact hq _ hK2 hF2
  · intro j hj ih
    have d4 : h2 100 j = bestB S j := by
      rw [d3 j (by omega), bestB, Int.toNat_natCast]
      by_cases e : j < nG S
      · rw [if_pos e, if_pos (by omega)]
      · rw [if_neg e, if_neg (by omega)]
    have r3 := bestB_rg hW (y := (j : Int)) (by omega)
    refine xj_iload (pc2 := 31) dX6_digestOfBoxes_29 rfl rfl ?_
    refine xj_bipush (pc2 := 33) dX6_digestOfBoxes_31 rfl (by decide) ?_
    refine xj_cmp_ge (pc2 := 36) (tgt := 62) dX6_digestOfBoxes_33 rfl rfl (by omega) (by omega) (fun c_33 => by exfalso; omega) (fun c_33 => ?_)
    refine xj_ldc2 (pc2 := 39) (n := 31) dX6_digestOfBoxes_36 rfl k_X6_252 rfl ?_
    refine xj_lload_n (pc2 := 40) dX6_digestOfBoxes_39 rfl rfl rfl ?_
    refine xj_lmul (pc2 := 41) dX6_digestOfBoxes_40 rfl ?_
    refine xj_aload_n (pc2 := 42) dX6_digestOfBoxes_41 rfl rfl rfl ?_
    refine xj_getRn (pc2 := 45) (c2 := 6) fok_X6_39 dX6_digestOfBoxes_42 rfl rfl rfl rfl rfl ?_
    refine xj_getRn (pc2 := 48) (c2 := 100) fok_X6_202 dX6_digestOfBoxes_45 rfl rfl rfl rfl rfl ?_
    refine xj_iload (pc2 := 50) dX6_digestOfBoxes_48 rfl rfl ?_
    refine xj_S2I (pc2 := 53) (d2 := 0) mok_X6_at ml_X6_98 sta_yX6_at dX6_digestOfBoxes_50 rfl rfl (by decide) (by decide) (Nat.le_of_ble_eq_true rfl) (fun _ => rfl) ?_
    refine c_X6_at rfl (by omega) (by decide) d4 ?_
    refine xj_i2l (pc2 := 54) dX6_digestOfBoxes_53 rfl (by omega) ?_
    refine xj_ladd (pc2 := 55) dX6_digestOfBoxes_54 rfl ?_
    refine xj_lstore3 (pc2 := 56) dX6_digestOfBoxes_55 rfl rfl (by decide) rfl ?_
    refine xj_iinc5 (pc2 := 59) dX6_digestOfBoxes_56 rfl (by decide) rfl ?_
    refine xj_goto (tgt := 29) dX6_digestOfBoxes_59 rfl ?_
    exact ih
theorem c_X6_digest {S I : Sh} {len : Int} {pg : Int → Int} {im tr td : Int} {h : Hp} {Q : Int → Hp → Prop} (hK : KC S I len pg im tr td h) (hKW : KW S I im tr td) (hq : ∀ h', KC S I len pg im tr td h' → FrC h h' → Q (dgZ S len pg tr td) h') : CJ 10 kX6_digest [.ref 0] h Q := by
  have hW := hKW.1
  have hnn := wf_n hW
  have hng := nG_eq hW
  have hnw := nW_eq hW
  have hlr := hK.2.2.1.2.1
  have nh : ∀ h' : Hp, KC S I len pg im tr td h' → h' 2 11 = (nG S : Int) ∧ h' 2 12 = (nW S : Int) ∧ h' 1 1 = len := fun h' hk => ⟨hk.1.1.1.trans hng.symm, hk.1.1.2.1.trans hnw.symm, hk.2.2.1.1⟩
  obtain ⟨ln, hln⟩ := Int.eq_ofNat_of_zero_le hlr.1
  have key4 : ∀ h' : Hp, KC S I len pg im tr td h' → FrC h h' → XJ none 10 kX6_digest h' 133 [some (.ref 0), some (vl (dg4 S len pg)), none, some (vi 0), none] [] Q := by
    refine down (P := fun j => ∀ h' : Hp, KC S I len pg im tr td h' → FrC h h' → XJ none 10 kX6_digest h' 133 [some (.ref 0), some (vl (it (fun x a => 31 * a + countZ S len tr td x) (dg4 S len pg) j)), none, some (vi j), none] [] Q) (n := 13) ?_ ?_
    · intro h' hK hF
      refine xj_iload_n (pc2 := 134) dX6_digest_133 rfl rfl rfl ?_
      refine xj_bipush (pc2 := 136) dX6_digest_134 rfl (by decide) ?_
      refine xj_cmp_gt (pc2 := 139) (tgt := 158) dX6_digest_136 rfl rfl (by omega) (by omega) (fun c_136 => ?_) (fun c_136 => by exfalso; omega)
      refine xj_lload_n (pc2 := 159) dX6_digest_158 rfl rfl rfl ?_
      refine xj_lret dX6_digest_159 rfl ?_
      exact hq _ hK hF
    · intro j hj ih h' hK hF
      have r1 := countZ_rg hKW hlr j
      refine xj_iload_n (pc2 := 134) dX6_digest_133 rfl rfl rfl ?_
      refine xj_bipush (pc2 := 136) dX6_digest_134 rfl (by decide) ?_
      refine xj_cmp_gt (pc2 := 139) (tgt := 158) dX6_digest_136 rfl rfl (by omega) (by omega) (fun c_136 => by exfalso; omega) (fun c_136 => ?_)
      refine xj_ldc2 (pc2 := 142) (n := 31) dX6_digest_139 rfl k_X6_252 rfl ?_
      refine xj_lload_n (pc2 := 143) dX6_digest_142 rfl rfl rfl ?_
      refine xj_lmul (pc2 := 144) dX6_digest_143 rfl ?_
      refine xj_aload_n (pc2 := 145) dX6_digest_144 rfl rfl rfl ?_
      refine xj_iload_n (pc2 := 146) dX6_digest_145 rfl rfl rfl ?_
      refine xj_V1I (pc2 := 149) (d2 := 5) mok_X6_count ml_X6_268 ima_yX6_count sel_yX6_count rfl rfl dX6_digest_146 rfl rfl (by decide) (by decide) (Nat.le_of_ble_eq_true rfl) (fun _ => rfl) ?_
      refine c_X6_count hK hKW (by omega) ?_
      intro h9 hK9 hF9
      refine xj_i2l (pc2 := 150) dX6_digest_149 rfl (by omega) ?_
      refine xj_ladd (pc2 := 151) dX6_digest_150 rfl ?_
      refine xj_lstore1 (pc2 := 152) dX6_digest_151 rfl rfl (by decide) rfl ?_
      refine xj_iinc3 (pc2 := 155) dX6_digest_152 rfl (by decide) rfl ?_
      refine xj_goto (tgt := 133) dX6_digest_155 rfl ?_
      exact ih _ hK9 (FrC_tr hF hF9)
  have key3 : ∀ h' : Hp, KC S I len pg im tr td h' → FrC h h' → XJ none 10 kX6_digest h' 95 [some (.ref 0), some (vl (dg3 S)), none, some (vi 0), none] [] Q := by
    refine down (P := fun j => ∀ h' : Hp, KC S I len pg im tr td h' → FrC h h' → XJ none 10 kX6_digest h' 95 [some (.ref 0), some (vl (it (fun k a => 31 * a + pg k) (dg3 S) j)), none, some (vi j), none] [] Q) (n := ln) ?_ ?_
    · intro h' hK hF
      obtain ⟨n1, n2, n3⟩ := nh h' hK
      rw [show it (fun k a => 31 * a + pg k) (dg3 S) ln = dg4 S len pg by unfold dg4; rw [hln]; rfl]
      refine xj_iload_n (pc2 := 96) dX6_digest_95 rfl rfl rfl ?_
      refine xj_aload_n (pc2 := 97) dX6_digest_96 rfl rfl rfl ?_
      refine xj_getRn (pc2 := 100) (c2 := 1) fok_X6_12 dX6_digest_97 rfl rfl rfl rfl rfl ?_
      refine xj_getI (pc2 := 103) (kz := 1) fok_X6_65 dX6_digest_100 rfl rfl rfl (by decide) rfl (by first | assumption | rfl) ?_
      refine xj_cmp_ge (pc2 := 106) (tgt := 131) dX6_digest_103 rfl rfl (by omega) (by omega) (fun c_103 => ?_) (fun c_103 => by exfalso; omega)
      refine xj_iconst (pc2 := 132) dX6_digest_131 rfl ?_
      refine xj_istore3 (pc2 := 133) dX6_digest_132 rfl rfl (by decide) rfl ?_
      exact key4 h' hK hF
    · intro j hj ih h' hK hF
      obtain ⟨n1, n2, n3⟩ := nh h' hK
      have hpj := hK.2.2.1.2.2 (j : Int) (by omega) (by omega)
      refine xj_iload_n (pc2 := 96) dX6_digest_95 rfl rfl rfl ?_
      refine xj_aload_n (pc2 := 97) dX6_digest_96 rfl rfl rfl ?_
      refine xj_getRn (pc2 := 100) (c2 := 1) fok_X6_12 dX6_digest_97 rfl rfl rfl rfl rfl ?_
      refine xj_getI (pc2 := 103) (kz := 1) fok_X6_65 dX6_digest_100 rfl rfl rfl (by decide) rfl (by first | assumption | rfl) ?_
      refine xj_cmp_ge (pc2 := 106) (tgt := 131) dX6_digest_103 rfl rfl (by omega) (by omega) (fun c_103 => by exfalso; omega) (fun c_103 => ?_)
      refine xj_ldc2 (pc2 := 109) (n := 31) dX6_digest_106 rfl k_X6_252 rfl ?_
      refine xj_lload_n (pc2 := 110) dX6_digest_109 rfl rfl rfl ?_
      refine xj_lmul (pc2 := 111) dX6_digest_110 rfl ?_
      refine xj_aload_n (pc2 := 112) dX6_digest_111 rfl rfl rfl ?_
      refine xj_getRn (pc2 := 115) (c2 := 1) fok_X6_12 dX6_digest_112 rfl rfl rfl rfl rfl ?_
      refine xj_getRn (pc2 := 118) (c2 := 17) fok_X6_265 dX6_digest_115 rfl rfl rfl rfl rfl ?_
      refine xj_iload_n (pc2 := 119) dX6_digest_118 rfl rfl rfl ?_
      refine xj_S2I (pc2 := 122) (d2 := 0) mok_X6_at ml_X6_98 sta_yX6_at dX6_digest_119 rfl rfl (by decide) (by decide) (Nat.le_of_ble_eq_true rfl) (fun _ => rfl) ?_
      refine c_X6_at rfl (by omega) (by decide) hpj.1 ?_
      refine xj_i2l (pc2 := 123) dX6_digest_122 rfl (by omega) ?_
      refine xj_ladd (pc2 := 124) dX6_digest_123 rfl ?_
      refine xj_lstore1 (pc2 := 125) dX6_digest_124 rfl rfl (by decide) rfl ?_
      refine xj_iinc3 (pc2 := 128) dX6_digest_125 rfl (by decide) rfl ?_
      refine xj_goto (tgt := 95) dX6_digest_128 rfl ?_
      exact ih _ hK hF
  have key2 : ∀ h' : Hp, KC S I len pg im tr td h' → FrC h h' → XJ none 10 kX6_digest h' 56 [some (.ref 0), some (vl (dg1 S)), none, some (vi 0), none] [] Q := by
    refine down (P := fun j => ∀ h' : Hp, KC S I len pg im tr td h' → FrC h h' → XJ none 10 kX6_digest h' 56 [some (.ref 0), some (vl (it (fun w a => digW S w a) (dg1 S) j)), none, some (vi j), none] [] Q) (n := nW S) ?_ ?_
    · intro h' hK hF
      obtain ⟨n1, n2, n3⟩ := nh h' hK
      have hn := hK.1.1.1
      rw [show it (fun w a => digW S w a) (dg1 S) (nW S) = dg2 S from rfl]
      refine xj_iload_n (pc2 := 57) dX6_digest_56 rfl rfl rfl ?_
      refine xj_aload_n (pc2 := 58) dX6_digest_57 rfl rfl rfl ?_
      refine xj_getRn (pc2 := 61) (c2 := 2) fok_X6_19 dX6_digest_58 rfl rfl rfl rfl rfl ?_
      refine xj_getI (pc2 := 64) (kz := 12) fok_X6_238 dX6_digest_61 rfl rfl rfl (by decide) rfl (by first | assumption | rfl) ?_
      refine xj_cmp_ge (pc2 := 67) (tgt := 80) dX6_digest_64 rfl rfl (by omega) (by omega) (fun c_64 => ?_) (fun c_64 => by exfalso; omega)
      refine xj_aload_n (pc2 := 81) dX6_digest_80 rfl rfl rfl ?_
      refine xj_V0I (pc2 := 84) (d2 := 0) mok_X6_hasShop ml_X6_167 ima_yX6_hasShop sel_yX6_hasShop rfl rfl dX6_digest_81 rfl rfl (by decide) (by decide) (Nat.le_of_ble_eq_true rfl) (fun _ => rfl) ?_
      refine c_X6_hasShop hn (by omega) ?_ ?_
      · -- X6_hasShop = 1
        intro c_81
        have e3 : dg3 S = digB S (dg2 S) := if_pos c_81
        refine xj_if_eq (pc2 := 87) (tgt := 93) dX6_digest_84 rfl rfl (by omega) (fun c_84 => absurd c_84 (by decide)) (fun c_84 => ?_)
        refine xj_aload_n (pc2 := 88) dX6_digest_87 rfl rfl rfl ?_
        refine xj_lload_n (pc2 := 89) dX6_digest_88 rfl rfl rfl ?_
        refine xj_V1J (pc2 := 92) (d2 := 9) mok_X6_digestOfBoxes ml_X6_261 ima_yX6_digestOfBoxes sel_yX6_digestOfBoxes rfl rfl dX6_digest_89 rfl rfl (by decide) (by decide) (Nat.le_of_ble_eq_true rfl) (fun _ => rfl) ?_
        refine c_X6_digestOfBoxes hK hKW ?_
        intro h9 hK9 hF9
        refine xj_lstore1 (pc2 := 93) dX6_digest_92 rfl rfl (by decide) rfl ?_
        refine xj_iconst (pc2 := 94) dX6_digest_93 rfl ?_
        refine xj_istore3 (pc2 := 95) dX6_digest_94 rfl rfl (by decide) rfl ?_
        first
        | (rw [← e3]; exact key3 _ hK9 (FrC_tr hF hF9))
        | (rw [← e3]; exact key3 _ hK hF)
      · -- X6_hasShop = 0
        intro c_81
        have e3 : dg3 S = dg2 S := if_neg c_81
        refine xj_if_eq (pc2 := 87) (tgt := 93) dX6_digest_84 rfl rfl (by omega) (fun c_84 => ?_) (fun c_84 => absurd c_84 (by decide))
        refine xj_iconst (pc2 := 94) dX6_digest_93 rfl ?_
        refine xj_istore3 (pc2 := 95) dX6_digest_94 rfl rfl (by decide) rfl ?_
        first
        | (rw [← e3]; exact key3 _ hK9 (FrC_tr hF hF9))
        | (rw [← e3]; exact key3 _ hK hF)
    · intro j hj ih h' hK hF
      obtain ⟨n1, n2, n3⟩ := nh h' hK
      refine xj_iload_n (pc2 := 57) dX6_digest_56 rfl rfl rfl ?_
      refine xj_aload_n (pc2 := 58) dX6_digest_57 rfl rfl rfl ?_
      refine xj_getRn (pc2 := 61) (c2 := 2) fok_X6_19 dX6_digest_58 rfl rfl rfl rfl rfl ?_
      refine xj_getI (pc2 := 64) (kz := 12) fok_X6_238 dX6_digest_61 rfl rfl rfl (by decide) rfl (by first | assumption | rfl) ?_
      refine xj_cmp_ge (pc2 := 67) (tgt := 80) dX6_digest_64 rfl rfl (by omega) (by omega) (fun c_64 => by exfalso; omega) (fun c_64 => ?_)
      refine xj_aload_n (pc2 := 68) dX6_digest_67 rfl rfl rfl ?_
      refine xj_lload_n (pc2 := 69) dX6_digest_68 rfl rfl rfl ?_
      refine xj_iload_n (pc2 := 70) dX6_digest_69 rfl rfl rfl ?_
      refine xj_V2J (pc2 := 73) (d2 := 5) mok_X6_digestOfWearer ml_X6_257 ima_yX6_digestOfWearer sel_yX6_digestOfWearer rfl rfl dX6_digest_70 rfl rfl (by decide) (by decide) (Nat.le_of_ble_eq_true rfl) (fun _ => rfl) ?_
      refine c_X6_digestOfWearer hK hKW (by omega) ?_
      intro h9 hK9 hF9
      refine xj_lstore1 (pc2 := 74) dX6_digest_73 rfl rfl (by decide) rfl ?_
      refine xj_iinc3 (pc2 := 77) dX6_digest_74 rfl (by decide) rfl ?_
      refine xj_goto (tgt := 56) dX6_digest_77 rfl ?_
      exact ih _ hK9 (FrC_tr hF hF9)
  refine cj_of (lo := [some (.ref 0), none, none, none, none]) mok_X6_digest (fun _ => rfl) (fun _ => Nat.le_of_ble_eq_true rfl) ?_
  refine xj_ldc2 (pc2 := 3) (n := 1237) dX6_digest_0 rfl k_X6_250 rfl ?_
  refine xj_lstore1 (pc2 := 4) dX6_digest_3 rfl rfl (by decide) rfl ?_
  refine xj_iconst (pc2 := 5) dX6_digest_4 rfl ?_
  refine xj_istore3 (pc2 := 6) dX6_digest_5 rfl rfl (by decide) rfl ?_
  refine down (P := fun j => ∀ h' : Hp, KC S I len pg im tr td h' → FrC h h' → XJ none 10 kX6_digest h' 6 [some (.ref 0), some (vl (it (fun g a => digG S g a) 1237 j)), none, some (vi j), none] [] Q) (n := nG S) ?_ ?_ h hK FrC_rf
  · intro h' hK hF
    obtain ⟨n1, n2, n3⟩ := nh h' hK
    rw [show it (fun g a => digG S g a) 1237 (nG S) = dg1 S from rfl]
    refine xj_iload_n (pc2 := 7) dX6_digest_6 rfl rfl rfl ?_
    refine xj_aload_n (pc2 := 8) dX6_digest_7 rfl rfl rfl ?_
    refine xj_getRn (pc2 := 11) (c2 := 2) fok_X6_19 dX6_digest_8 rfl rfl rfl rfl rfl ?_
    refine xj_getI (pc2 := 14) (kz := 11) fok_X6_88 dX6_digest_11 rfl rfl rfl (by decide) rfl (by first | assumption | rfl) ?_
    refine xj_cmp_ge (pc2 := 17) (tgt := 54) dX6_digest_14 rfl rfl (by omega) (by omega) (fun c_14 => ?_) (fun c_14 => by exfalso; omega)
    refine xj_iconst (pc2 := 55) dX6_digest_54 rfl ?_
    refine xj_istore3 (pc2 := 56) dX6_digest_55 rfl rfl (by decide) rfl ?_
    exact key2 h' hK hF
  · intro j hj ih h' hK hF
    obtain ⟨n1, n2, n3⟩ := nh h' hK
    refine xj_iload_n (pc2 := 7) dX6_digest_6 rfl rfl rfl ?_
    refine xj_aload_n (pc2 := 8) dX6_digest_7 rfl rfl rfl ?_
    refine xj_getRn (pc2 := 11) (c2 := 2) fok_X6_19 dX6_digest_8 rfl rfl rfl rfl rfl ?_
    refine xj_getI (pc2 := 14) (kz := 11) fok_X6_88 dX6_digest_11 rfl rfl rfl (by decide) rfl (by first | assumption | rfl) ?_
    refine xj_cmp_ge (pc2 := 17) (tgt := 54) dX6_digest_14 rfl rfl (by omega) (by omega) (fun c_14 => by exfalso; omega) (fun c_14 => ?_)
    refine xj_iconst (pc2 := 18) dX6_digest_17 rfl ?_
    refine xj_istore4 (pc2 := 20) dX6_digest_18 rfl (by decide) rfl ?_
    refine down (P := fun i => ∀ h2 : Hp, KC S I len pg im tr td h2 → FrC h h2 → XJ none 10 kX6_digest h2 20 [some (.ref 0), some (vl (it (fun x a => 31 * a + gloveZ S j x) (it (fun g a => digG S g a) 1237 j) i)), none, some (vi j), some (vi i)] [] Q) (n := 9) ?_ ?_ h' hK hF
    · intro h2 hK hF
      refine xj_iload (pc2 := 22) dX6_digest_20 rfl rfl ?_
      refine xj_bipush (pc2 := 24) dX6_digest_22 rfl (by decide) ?_
      refine xj_cmp_gt (pc2 := 27) (tgt := 48) dX6_digest_24 rfl rfl (by omega) (by omega) (fun c_24 => ?_) (fun c_24 => by exfalso; omega)
      refine xj_iinc3 (pc2 := 51) dX6_digest_48 rfl (by decide) rfl ?_
      refine xj_goto (tgt := 6) dX6_digest_51 rfl ?_
      exact xj_sub (by repeat (first | exact subL_nil | apply subL_none | apply subL_some rfl)) (ih _ hK hF)
    · intro i hi ihi h2 hK hF
      have r1 := gloveZ_rg hW j i
      refine xj_iload (pc2 := 22) dX6_digest_20 rfl rfl ?_
      refine xj_bipush (pc2 := 24) dX6_digest_22 rfl (by decide) ?_
      refine xj_cmp_gt (pc2 := 27) (tgt := 48) dX6_digest_24 rfl rfl (by omega) (by omega) (fun c_24 => by exfalso; omega) (fun c_24 => ?_)
      refine xj_ldc2 (pc2 := 30) (n := 31) dX6_digest_27 rfl k_X6_252 rfl ?_
      refine xj_lload_n (pc2 := 31) dX6_digest_30 rfl rfl rfl ?_
      refine xj_lmul (pc2 := 32) dX6_digest_31 rfl ?_
      refine xj_aload_n (pc2 := 33) dX6_digest_32 rfl rfl rfl ?_
      refine xj_iload_n (pc2 := 34) dX6_digest_33 rfl rfl rfl ?_
      refine xj_iload (pc2 := 36) dX6_digest_34 rfl rfl ?_
      refine xj_V2I (pc2 := 39) (d2 := 4) mok_X6_glove ml_X6_254 ima_yX6_glove sel_yX6_glove rfl rfl dX6_digest_36 rfl rfl (by decide) (by decide) (Nat.le_of_ble_eq_true rfl) (fun _ => rfl) ?_
      refine c_X6_glove hK hKW (by omega) (by omega) ?_
      intro h9 hK9 hF9
      refine xj_i2l (pc2 := 40) dX6_digest_39 rfl (by omega) ?_
      refine xj_ladd (pc2 := 41) dX6_digest_40 rfl ?_
      refine xj_lstore1 (pc2 := 42) dX6_digest_41 rfl rfl (by decide) rfl ?_
      refine xj_iinc4 (pc2 := 45) dX6_digest_42 rfl (by decide) rfl ?_
      refine xj_goto (tgt := 20) dX6_digest_45 rfl ?_
      exact ihi _ hK9 (FrC_tr hF hF9)
