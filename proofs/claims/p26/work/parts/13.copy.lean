/-! seen, a new shop, copies, changes by draws -/
def seeS (S : Sh) (g m t : Int) : Sh := hset (hset (hset (hset S 7 (S 6 3) g) 8 (S 6 3) m) 9 (S 6 3) t) 6 3 (S 6 3 + 1)
theorem c_X5_open {b : Nat} {n w : Int} {h : Hp} {Q : Int → Hp → Prop} (hb : Shb b) (hq : ∀ h', (h' b 11 = n ∧ h' b 12 = w ∧ h' b 13 = 0 ∧ h' b 14 = 0) → (∀ g, 0 ≤ g → g < 6 → h' (ch b 2) g = 0 ∧ h' (ch b 3) g = -1 ∧ h' (ch b 4) g = -1) → (∀ k, 0 ≤ k → k < 3 → h' (ch b 6) k = 2) → (∀ c k, c ≠ b → (∀ i, i < 10 → c ≠ ch b i) → h' c k = h c k) → Q 0 h') : CJ 1 kX5_open [.ref b, vi n, vi w] h Q := by
  refine cj_of (lo := [some (.ref b), some (vi n), some (vi w)]) mok_X5_open (fun _ => rfl) (fun _ => Nat.le_of_ble_eq_true rfl) ?_
  refine xj_aload_n (pc2 := 1) dX5_open_0 rfl rfl rfl ?_
  refine xj_iload_n (pc2 := 2) dX5_open_1 rfl rfl rfl ?_
  refine xj_putI (pc2 := 5) (kz := 11) fok_X5_45 dX5_open_2 rfl rfl (ks hb) rfl rfl ?_
  refine xj_aload_n (pc2 := 6) dX5_open_5 rfl rfl rfl ?_
  refine xj_iload_n (pc2 := 7) dX5_open_6 rfl rfl rfl ?_
  refine xj_putI (pc2 := 10) (kz := 12) fok_X5_49 dX5_open_7 rfl rfl (ks hb) rfl rfl ?_
  refine xj_aload_n (pc2 := 11) dX5_open_10 rfl rfl rfl ?_
  refine xj_iconst (pc2 := 12) dX5_open_11 rfl ?_
  refine xj_putI (pc2 := 15) (kz := 13) fok_X5_52 dX5_open_12 rfl rfl (ks hb) rfl rfl ?_
  refine xj_aload_n (pc2 := 16) dX5_open_15 rfl rfl rfl ?_
  refine xj_iconst (pc2 := 17) dX5_open_16 rfl ?_
  refine xj_putI (pc2 := 20) (kz := 14) fok_X5_55 dX5_open_17 rfl rfl (ks hb) rfl rfl ?_
  refine xj_aload_n (pc2 := 21) dX5_open_20 rfl rfl rfl ?_
  refine xj_getR (pc2 := 24) fok_X5_18 dX5_open_21 rfl rfl (ks hb) rfl ?_
  refine xj_iconst (pc2 := 25) dX5_open_24 rfl ?_
  refine xj_S2V (pc2 := 28) (d2 := 0) mok_J7_fill_53178 ml_X5_58 sta_yJ7_fill_53178 dX5_open_25 rfl rfl (by decide) (by decide) (Nat.le_of_ble_eq_true rfl) (fun _ => rfl) ?_
  refine c_fill (ks2 hb) (by decide) ?_
  refine xj_aload_n (pc2 := 29) dX5_open_28 rfl rfl rfl ?_
  refine xj_getR (pc2 := 32) fok_X5_21 dX5_open_29 rfl rfl (ks hb) rfl ?_
  refine xj_iconst (pc2 := 33) dX5_open_32 rfl ?_
  refine xj_S2V (pc2 := 36) (d2 := 0) mok_J7_fill_53178 ml_X5_58 sta_yJ7_fill_53178 dX5_open_33 rfl rfl (by decide) (by decide) (Nat.le_of_ble_eq_true rfl) (fun _ => rfl) ?_
  refine c_fill (ks3 hb) (by decide) ?_
  refine xj_aload_n (pc2 := 37) dX5_open_36 rfl rfl rfl ?_
  refine xj_getR (pc2 := 40) fok_X5_24 dX5_open_37 rfl rfl (ks hb) rfl ?_
  refine xj_iconst (pc2 := 41) dX5_open_40 rfl ?_
  refine xj_S2V (pc2 := 44) (d2 := 0) mok_J7_fill_53178 ml_X5_58 sta_yJ7_fill_53178 dX5_open_41 rfl rfl (by decide) (by decide) (Nat.le_of_ble_eq_true rfl) (fun _ => rfl) ?_
  refine c_fill (ks4 hb) (by decide) ?_
  refine xj_aload_n (pc2 := 45) dX5_open_44 rfl rfl rfl ?_
  refine xj_getR (pc2 := 48) fok_X5_30 dX5_open_45 rfl rfl (ks hb) rfl ?_
  refine xj_iconst (pc2 := 49) dX5_open_48 rfl ?_
  refine xj_S2V (pc2 := 52) (d2 := 0) mok_J7_fill_53178 ml_X5_58 sta_yJ7_fill_53178 dX5_open_49 rfl rfl (by decide) (by decide) (Nat.le_of_ble_eq_true rfl) (fun _ => rfl) ?_
  refine c_fill (ks6 hb) (by decide) ?_
  refine xj_vret dX5_open_52 rfl ?_
  have e1 : ∀ i k : Nat, i ≠ k → (ch b i = ch b k) = False := fun i k hik => eq_false (ch_in hik)
  have e2 : ∀ i : Nat, (ch b i = b) = False := fun i => eq_false (ch_bne b i)
  have e3 : ∀ i : Nat, (b = ch b i) = False := fun i => eq_false (bne_ch b i)
  refine hq _ ?_ ?_ ?_ ?_
  · simp [hfill, hset, e3]
  · intro g h0 h1
    simp [hfill, hset, e1, e2, h0, h1]
  · intro k h0 h1
    simp [hfill, hset, e1, e2, h0, h1]
  · intro c k hc hi
    have a1 := hi 2 (by decide)
    have a2 := hi 3 (by decide)
    have a3 := hi 4 (by decide)
    have a4 := hi 6 (by decide)
    simp [hfill, hset, hc, a1, a2, a3, a4]
theorem c_X5_copyFrom {b c : Nat} {S : Sh} {h : Hp} {Q : Int → Hp → Prop} (hb : Shb b) (hc : Shb c) (hne : b ≠ c) (hR : RC c S h) (hW : WF S) (hq : ∀ h', RC b S h' → (∀ c' k, c' ≠ b → (∀ i, i < 10 → c' ≠ ch b i) → h' c' k = h c' k) → Q 0 h') : CJ 1 kX5_copyFrom [.ref b, .ref c] h Q := by
  obtain ⟨⟨hn, hw, hh, hs⟩, hG, hN, hE⟩ := id hR
  have hnn := wf_n hW
  obtain ⟨x1, x2, x3, x4⟩ := chainc b c hb hc hne
  refine cj_of (lo := [some (.ref b), some (.ref c)]) mok_X5_copyFrom (fun _ => rfl) (fun _ => Nat.le_of_ble_eq_true rfl) ?_
  refine xj_aload_n (pc2 := 1) dX5_copyFrom_0 rfl rfl rfl ?_
  refine xj_aload_n (pc2 := 2) dX5_copyFrom_1 rfl rfl rfl ?_
  refine xj_getI (pc2 := 5) (kz := 11) fok_X5_45 dX5_copyFrom_2 rfl rfl (ks hc) (by decide) rfl hn ?_
  refine xj_putI (pc2 := 8) (kz := 11) fok_X5_45 dX5_copyFrom_5 rfl rfl (ks hb) rfl rfl ?_
  refine xj_aload_n (pc2 := 9) dX5_copyFrom_8 rfl rfl rfl ?_
  refine xj_aload_n (pc2 := 10) dX5_copyFrom_9 rfl rfl rfl ?_
  refine xj_getI (pc2 := 13) (kz := 12) fok_X5_49 dX5_copyFrom_10 rfl rfl (ks hc) (by decide) rfl ((hset_nc x1).trans hw) ?_
  refine xj_putI (pc2 := 16) (kz := 12) fok_X5_49 dX5_copyFrom_13 rfl rfl (ks hb) rfl rfl ?_
  refine xj_aload_n (pc2 := 17) dX5_copyFrom_16 rfl rfl rfl ?_
  refine xj_aload_n (pc2 := 18) dX5_copyFrom_17 rfl rfl rfl ?_
  refine xj_getI (pc2 := 21) (kz := 13) fok_X5_52 dX5_copyFrom_18 rfl rfl (ks hc) (by decide) rfl ((hset_nc x1).trans ((hset_nc x1).trans hh)) ?_
  refine xj_putI (pc2 := 24) (kz := 13) fok_X5_52 dX5_copyFrom_21 rfl rfl (ks hb) rfl rfl ?_
  refine xj_aload_n (pc2 := 25) dX5_copyFrom_24 rfl rfl rfl ?_
  refine xj_aload_n (pc2 := 26) dX5_copyFrom_25 rfl rfl rfl ?_
  refine xj_getI (pc2 := 29) (kz := 14) fok_X5_55 dX5_copyFrom_26 rfl rfl (ks hc) (by decide) rfl ((hset_nc x1).trans ((hset_nc x1).trans ((hset_nc x1).trans hs))) ?_
  refine xj_putI (pc2 := 32) (kz := 14) fok_X5_55 dX5_copyFrom_29 rfl rfl (ks hb) rfl rfl ?_
  refine xj_aload_n (pc2 := 33) dX5_copyFrom_32 rfl rfl rfl ?_
  refine xj_getR (pc2 := 36) fok_X5_9 dX5_copyFrom_33 rfl rfl (ks hc) rfl ?_
  refine xj_aload_n (pc2 := 37) dX5_copyFrom_36 rfl rfl rfl ?_
  refine xj_getR (pc2 := 40) fok_X5_9 dX5_copyFrom_37 rfl rfl (ks hb) rfl ?_
  refine xj_N2V (pc2 := 43) (d2 := 0) mok_X6_copyRow mn_X5_64 sta_yX6_copyRow dX5_copyFrom_40 rfl rfl (by decide) (by decide) (Nat.le_of_ble_eq_true rfl) (fun _ => rfl) ?_
  refine c_X6_copyRow (ks0 hc) (ks0 hb) (by decide) (by decide) ?_
  refine xj_aload_n (pc2 := 44) dX5_copyFrom_43 rfl rfl rfl ?_
  refine xj_getR (pc2 := 47) fok_X5_15 dX5_copyFrom_44 rfl rfl (ks hc) rfl ?_
  refine xj_aload_n (pc2 := 48) dX5_copyFrom_47 rfl rfl rfl ?_
  refine xj_getR (pc2 := 51) fok_X5_15 dX5_copyFrom_48 rfl rfl (ks hb) rfl ?_
  refine xj_N2V (pc2 := 54) (d2 := 0) mok_X6_copyRow mn_X5_64 sta_yX6_copyRow dX5_copyFrom_51 rfl rfl (by decide) (by decide) (Nat.le_of_ble_eq_true rfl) (fun _ => rfl) ?_
  refine c_X6_copyRow (ks1 hc) (ks1 hb) (by decide) (by decide) ?_
  refine xj_aload_n (pc2 := 55) dX5_copyFrom_54 rfl rfl rfl ?_
  refine xj_getR (pc2 := 58) fok_X5_18 dX5_copyFrom_55 rfl rfl (ks hc) rfl ?_
  refine xj_aload_n (pc2 := 59) dX5_copyFrom_58 rfl rfl rfl ?_
  refine xj_getR (pc2 := 62) fok_X5_18 dX5_copyFrom_59 rfl rfl (ks hb) rfl ?_
  refine xj_N2V (pc2 := 65) (d2 := 0) mok_X6_copyRow mn_X5_64 sta_yX6_copyRow dX5_copyFrom_62 rfl rfl (by decide) (by decide) (Nat.le_of_ble_eq_true rfl) (fun _ => rfl) ?_
  refine c_X6_copyRow (ks2 hc) (ks2 hb) (by decide) (by decide) ?_
  refine xj_aload_n (pc2 := 66) dX5_copyFrom_65 rfl rfl rfl ?_
  refine xj_getR (pc2 := 69) fok_X5_21 dX5_copyFrom_66 rfl rfl (ks hc) rfl ?_
  refine xj_aload_n (pc2 := 70) dX5_copyFrom_69 rfl rfl rfl ?_
  refine xj_getR (pc2 := 73) fok_X5_21 dX5_copyFrom_70 rfl rfl (ks hb) rfl ?_
  refine xj_N2V (pc2 := 76) (d2 := 0) mok_X6_copyRow mn_X5_64 sta_yX6_copyRow dX5_copyFrom_73 rfl rfl (by decide) (by decide) (Nat.le_of_ble_eq_true rfl) (fun _ => rfl) ?_
  refine c_X6_copyRow (ks3 hc) (ks3 hb) (by decide) (by decide) ?_
  refine xj_aload_n (pc2 := 77) dX5_copyFrom_76 rfl rfl rfl ?_
  refine xj_getR (pc2 := 80) fok_X5_24 dX5_copyFrom_77 rfl rfl (ks hc) rfl ?_
  refine xj_aload_n (pc2 := 81) dX5_copyFrom_80 rfl rfl rfl ?_
  refine xj_getR (pc2 := 84) fok_X5_24 dX5_copyFrom_81 rfl rfl (ks hb) rfl ?_
  refine xj_N2V (pc2 := 87) (d2 := 0) mok_X6_copyRow mn_X5_64 sta_yX6_copyRow dX5_copyFrom_84 rfl rfl (by decide) (by decide) (Nat.le_of_ble_eq_true rfl) (fun _ => rfl) ?_
  refine c_X6_copyRow (ks4 hc) (ks4 hb) (by decide) (by decide) ?_
  refine xj_aload_n (pc2 := 88) dX5_copyFrom_87 rfl rfl rfl ?_
  refine xj_getR (pc2 := 91) fok_X5_27 dX5_copyFrom_88 rfl rfl (ks hc) rfl ?_
  refine xj_aload_n (pc2 := 92) dX5_copyFrom_91 rfl rfl rfl ?_
  refine xj_getR (pc2 := 95) fok_X5_27 dX5_copyFrom_92 rfl rfl (ks hb) rfl ?_
  refine xj_N2V (pc2 := 98) (d2 := 0) mok_X6_copyRow mn_X5_64 sta_yX6_copyRow dX5_copyFrom_95 rfl rfl (by decide) (by decide) (Nat.le_of_ble_eq_true rfl) (fun _ => rfl) ?_
  refine c_X6_copyRow (ks5 hc) (ks5 hb) (by decide) (by decide) ?_
  refine xj_aload_n (pc2 := 99) dX5_copyFrom_98 rfl rfl rfl ?_
  refine xj_getR (pc2 := 102) fok_X5_30 dX5_copyFrom_99 rfl rfl (ks hc) rfl ?_
  refine xj_aload_n (pc2 := 103) dX5_copyFrom_102 rfl rfl rfl ?_
  refine xj_getR (pc2 := 106) fok_X5_30 dX5_copyFrom_103 rfl rfl (ks hb) rfl ?_
  refine xj_N2V (pc2 := 109) (d2 := 0) mok_X6_copyRow mn_X5_64 sta_yX6_copyRow dX5_copyFrom_106 rfl rfl (by decide) (by decide) (Nat.le_of_ble_eq_true rfl) (fun _ => rfl) ?_
  refine c_X6_copyRow (ks6 hc) (ks6 hb) (by decide) (by decide) ?_
  refine xj_aload_n (pc2 := 110) dX5_copyFrom_109 rfl rfl rfl ?_
  refine xj_getR (pc2 := 113) fok_X5_33 dX5_copyFrom_110 rfl rfl (ks hc) rfl ?_
  refine xj_aload_n (pc2 := 114) dX5_copyFrom_113 rfl rfl rfl ?_
  refine xj_getR (pc2 := 117) fok_X5_33 dX5_copyFrom_114 rfl rfl (ks hb) rfl ?_
  refine xj_N2V (pc2 := 120) (d2 := 0) mok_X6_copyRow mn_X5_64 sta_yX6_copyRow dX5_copyFrom_117 rfl rfl (by decide) (by decide) (Nat.le_of_ble_eq_true rfl) (fun _ => rfl) ?_
  refine c_X6_copyRow (ks7 hc) (ks7 hb) (by decide) (by decide) ?_
  refine xj_aload_n (pc2 := 121) dX5_copyFrom_120 rfl rfl rfl ?_
  refine xj_getR (pc2 := 124) fok_X5_36 dX5_copyFrom_121 rfl rfl (ks hc) rfl ?_
  refine xj_aload_n (pc2 := 125) dX5_copyFrom_124 rfl rfl rfl ?_
  refine xj_getR (pc2 := 128) fok_X5_36 dX5_copyFrom_125 rfl rfl (ks hb) rfl ?_
  refine xj_N2V (pc2 := 131) (d2 := 0) mok_X6_copyRow mn_X5_64 sta_yX6_copyRow dX5_copyFrom_128 rfl rfl (by decide) (by decide) (Nat.le_of_ble_eq_true rfl) (fun _ => rfl) ?_
  refine c_X6_copyRow (ks8 hc) (ks8 hb) (by decide) (by decide) ?_
  refine xj_aload_n (pc2 := 132) dX5_copyFrom_131 rfl rfl rfl ?_
  refine xj_getR (pc2 := 135) fok_X5_39 dX5_copyFrom_132 rfl rfl (ks hc) rfl ?_
  refine xj_aload_n (pc2 := 136) dX5_copyFrom_135 rfl rfl rfl ?_
  refine xj_getR (pc2 := 139) fok_X5_39 dX5_copyFrom_136 rfl rfl (ks hb) rfl ?_
  refine xj_N2V (pc2 := 142) (d2 := 0) mok_X6_copyRow mn_X5_64 sta_yX6_copyRow dX5_copyFrom_139 rfl rfl (by decide) (by decide) (Nat.le_of_ble_eq_true rfl) (fun _ => rfl) ?_
  refine c_X6_copyRow (ks9 hc) (ks9 hb) (by decide) (by decide) ?_
  refine xj_vret dX5_copyFrom_142 rfl ?_
  have e1 : ∀ i k : Nat, i ≠ k → (ch b i = ch b k) = False := fun i k hik => eq_false (ch_in hik)
  have e2 : ∀ i : Nat, (ch b i = b) = False := fun i => eq_false (ch_bne b i)
  have e3 : ∀ i : Nat, (b = ch b i) = False := fun i => eq_false (bne_ch b i)
  have e4 : ∀ i j : Nat, i < 11 → j < 11 → (ch c i = ch b j) = False := fun i j hi hj => eq_false (x3 i j hi hj)
  have e5 : ∀ i : Nat, i < 11 → (ch c i = b) = False := fun i hi => eq_false (x4 i hi)
  refine hq _ ⟨?_, fun g h0 h1 => ?_, fun w h0 h1 => ?_, fun i h0 h1 => ?_⟩ ?_
  · simp [hcopy, hset, e3]
  · have g6 : g < 6 := by omega
    obtain ⟨b1, b2, b3, b4, b5⟩ := hG g h0 h1
    simp [hcopy, hset, e1, e2, e4, e5, h0, g6, b1, b2, b3, b4, b5]
  · have w3 : w < 3 := by omega
    obtain ⟨b1, b2⟩ := hN w h0 h1
    simp [hcopy, hset, e1, e2, e4, e5, h0, w3, b1, b2]
  · have i8 : i < 8 := by omega
    obtain ⟨b1, b2, b3⟩ := hE i h0 h1
    simp [hcopy, hset, e1, e2, e4, e5, h0, i8, b1, b2, b3]
  · intro c' k hc' hi
    simp [hcopy, hset, hc', hi 0 (by decide), hi 1 (by decide), hi 2 (by decide), hi 3 (by decide), hi 4 (by decide), hi 5 (by decide), hi 6 (by decide), hi 7 (by decide), hi 8 (by decide), hi 9 (by decide)]
def fnd (p : Nat → Bool) : Nat → Int
  | 0 => -1
  | j + 1 => if fnd p j = -1 then (if p j then (j : Int) else -1) else fnd p j
theorem fnd_no {p : Nat → Bool} : ∀ n, (∀ j, j < n → p j = false) → fnd p n = -1
  | 0, _ => rfl
  | n + 1, h => by
    unfold fnd
    rw [fnd_no n (fun j hj => h j (by omega)), h n (by omega)]
    simp
theorem fnd_at {p : Nat → Bool} {i : Nat} : ∀ n, i < n → p i = true → (∀ j, j < i → p j = false) → fnd p n = i
  | 0, h, _, _ => by omega
  | n + 1, h, hp, hl => by
    unfold fnd
    by_cases e : i = n
    · subst e
      rw [fnd_no i hl, hp]
      simp
    · rw [fnd_at n (by omega) hp hl, if_neg (by omega)]
def goP (S : Sh) (x : Int) : Nat → Bool := fun g => decide (S 3 g = x)
/-- which glove is on a hand -/
def goZ (S : Sh) (x : Int) : Int := fnd (goP S x) (nG S)
theorem goZ_of {S : Sh} (hW : WF S) {x v : Int} (hx : x ≠ -1) (h : (v = -1 ∧ ∀ g, 0 ≤ g → g < S 6 0 → S 3 g ≠ x) ∨ (0 ≤ v ∧ v < S 6 0 ∧ S 3 v = x)) : v = goZ S x := by
  have hng := nG_eq hW
  rcases h with ⟨h1, h2⟩ | ⟨h1, h2, h3⟩
  · unfold goZ
    rw [fnd_no (p := goP S x) (nG S) (fun j hj => decide_eq_false (h2 j (by omega) (by omega)))]
    exact h1
  · obtain ⟨n, rfl⟩ := Int.eq_ofNat_of_zero_le h1
    unfold goZ
    rw [fnd_at (p := goP S x) (i := n) (nG S) (by omega) (decide_eq_true h3) (fun j hj => decide_eq_false (fun q => by
      have := hW.2.2.2.2.2.2 (j : Int) n (by omega) (by omega) h1 h2 (q.trans h3.symm) (by rw [q]; exact hx)
      omega))]
theorem goZ_spec {S : Sh} (hW : WF S) (x : Int) : (goZ S x = -1 ∧ ∀ g, 0 ≤ g → g < S 6 0 → S 3 g ≠ x) ∨ (0 ≤ goZ S x ∧ goZ S x < S 6 0 ∧ S 3 (goZ S x) = x) := by
  have hng := nG_eq hW
  have key : ∀ n, (fnd (goP S x) n = -1 ∧ ∀ j, j < n → S 3 (j : Nat) ≠ x) ∨ (∃ j, j < n ∧ fnd (goP S x) n = (j : Nat) ∧ S 3 (j : Nat) = x) := by
    intro n
    induction n with
    | zero => exact Or.inl ⟨rfl, fun j hj => by omega⟩
    | succ n ih =>
      unfold fnd
      rcases ih with ⟨e, h⟩ | ⟨j, hj, e, h⟩
      · rw [e, if_pos rfl]
        by_cases hp : S 3 (n : Nat) = x
        · exact Or.inr ⟨n, by omega, by rw [show goP S x n = true from decide_eq_true hp]; simp, hp⟩
        · refine Or.inl ⟨by rw [show goP S x n = false from decide_eq_false hp]; simp, fun j hj => ?_⟩
          by_cases e2 : j = n
          · subst e2; exact hp
          · exact h j (by omega)
      · rw [e, if_neg (by omega)]
        exact Or.inr ⟨j, by omega, rfl, h⟩
  unfold goZ
  rcases key (nG S) with ⟨e, h⟩ | ⟨j, hj, e, h⟩
  · refine Or.inl ⟨e, fun g h0 h1 => ?_⟩
    obtain ⟨n, rfl⟩ := Int.eq_ofNat_of_zero_le h0
    exact h n (by omega)
  · rw [e]
    exact Or.inr ⟨by omega, by omega, h⟩
theorem c_X5_gloveOn2 {b : Nat} {S : Sh} {w s : Int} {h : Hp} {Q : Int → Hp → Prop} (hb : Shb b) (hR : RC b S h) (hW : WF S) (hw0 : 0 ≤ w ∧ w ≤ 2) (hs0 : 0 ≤ s ∧ s ≤ 1) (hq : Q (goZ S (2 * w + s)) h) : CJ 1 kX5_gloveOn [.ref b, vi w, vi s] h Q :=
  c_X5_gloveOn hb hR hW hw0 hs0 (fun v hv => q_eq (goZ_of hW (by omega) hv) hq)
/-- one change by draws: the shop, and the seed behind it -/
def cbd (S : Sh) (s : Int) : Sh × Int :=
  if S 3 (drw s (S 6 0)) = -1 then
    (if goZ S (2 * drw (sdz s) (S 6 1) + drw (sdz (sdz s)) 2) = -1 then hset S 3 (drw s (S 6 0)) (2 * drw (sdz s) (S 6 1) + drw (sdz (sdz s)) 2) else S, sdz (sdz (sdz s)))
  else (hset S 3 (drw s (S 6 0)) (-1), sdz s)
theorem cbd_wf {S : Sh} (hW : WF S) (hn : 0 < S 6 0) (s : Int) : WF (cbd S s).1 := by
  have hd := drw_rg s hn
  have hnn := wf_n hW
  have hw1 : 0 < S 6 1 := by rcases hW.1 with h | h <;> omega
  have hd2 := drw_rg (sdz s) hw1
  have hd3 := drw_rg (sdz (sdz s)) (d := 2) (by decide)
  unfold cbd
  split
  · dsimp only
    split
    · rename_i e
      rcases goZ_spec hW (2 * drw (sdz s) (S 6 1) + drw (sdz (sdz s)) 2) with ⟨-, h⟩ | ⟨h, -⟩
      · exact WF_hand hW hd (Or.inr ⟨by omega, by omega, h⟩)
      · omega
    · exact hW
  · exact WF_hand hW hd (Or.inl rfl)
theorem c_X5_changeByDraws {b : Nat} {S : Sh} {s : Int} {h : Hp} {Q : Int → Hp → Prop} (hb : Shb b) (hR : RC b S h) (hW : WF S) (hn0 : 0 < S 6 0) (hs0 : h 8 0 = s) (hsr : 0 ≤ s ∧ s ≤ 2147483647) (hq : ∀ h', RC b (cbd S s).1 h' → h' 8 0 = (cbd S s).2 → (∀ c k, c ≠ 8 → c ≠ ch b 3 → c ≠ ch b 4 → h' c k = h c k) → Q 0 h') : CJ 2 kX5_changeByDraws [.ref b, .ref 8] h Q := by
  obtain ⟨⟨hn, hw, hh, hs⟩, hG, hN, hE⟩ := id hR
  have hnn := wf_n hW
  have hd := drw_rg s hn0
  have hw1 : 0 < S 6 1 := by rcases hW.1 with h | h <;> omega
  have hd2 := drw_rg (sdz s) hw1
  have hd3 := drw_rg (sdz (sdz s)) (d := 2) (by decide)
  have hz1 := sdz_rg s
  have hz2 := sdz_rg (sdz s)
  have b8 : b ≠ 8 := by rcases hb with rfl | rfl | rfl <;> decide
  have c8 : ∀ i, i < 11 → ch b i ≠ 8 := fun i hi => by unfold ch; rcases hb with rfl | rfl | rfl <;> omega
  have ho : hset h 8 0 (sdz s) (ch b 3) (drw s (S 6 0)) = hold (S 3 (drw s (S 6 0))) := by rw [hset_nc (c8 3 (by decide))]; exact (hG _ hd.1 hd.2).2.2.2.1
  have hob := hold_b hW hd
  have hwg := wf_g hW hd
  have hoi : (hold (S 3 (drw s (S 6 0))) = -1) ↔ S 3 (drw s (S 6 0)) = -1 := by unfold hold; constructor <;> intro q <;> (try split at q) <;> (try split) <;> omega
  have r8 : ∀ v, RC b S (hset h 8 0 v) := fun v => RC_eq hR (fun k => hset_nc b8) (fun i k hi => hset_nc (c8 i (by omega)))
  have r88 : ∀ v v2, RC b S (hset (hset h 8 0 v) 8 0 v2) := fun v v2 => RC_eq (r8 v) (fun k => hset_nc b8) (fun i k hi => hset_nc (c8 i (by omega)))
  have r888 : ∀ v v2 v3, RC b S (hset (hset (hset h 8 0 v) 8 0 v2) 8 0 v3) := fun v v2 v3 => RC_eq (r88 v v2) (fun k => hset_nc b8) (fun i k hi => hset_nc (c8 i (by omega)))
  unfold cbd at hq
  refine cj_of (lo := [some (.ref b), some (.ref 8), none, none, none]) mok_X5_changeByDraws (fun _ => rfl) (fun _ => Nat.le_of_ble_eq_true rfl) ?_
  refine xj_aload_n (pc2 := 1) dX5_changeByDraws_0 rfl rfl rfl ?_
  refine xj_aload_n (pc2 := 2) dX5_changeByDraws_1 rfl rfl rfl ?_
  refine xj_getI (pc2 := 5) (kz := 11) fok_X5_45 dX5_changeByDraws_2 rfl rfl (ks hb) (by decide) rfl (by first | assumption | rfl) ?_
  refine xj_V1I (pc2 := 8) (d2 := 0) mok_X1_next ml_X5_126 ima_yX1_next sel_yX1_next rfl rfl dX5_changeByDraws_5 rfl rfl (by decide) (by decide) (Nat.le_of_ble_eq_true rfl) (fun _ => rfl) ?_
  refine c_X1_next (by first | assumption | exact hset_eq _ _ _ _) (by omega) (by omega) ?_
  refine xj_istore2 (pc2 := 9) dX5_changeByDraws_8 rfl rfl (by decide) rfl ?_
  refine xj_aload_n (pc2 := 10) dX5_changeByDraws_9 rfl rfl rfl ?_
  refine xj_getR (pc2 := 13) fok_X5_21 dX5_changeByDraws_10 rfl rfl (ks hb) rfl ?_
  refine xj_iload_n (pc2 := 14) dX5_changeByDraws_13 rfl rfl rfl ?_
  refine xj_N2I (pc2 := 17) (d2 := 0) mok_X6_at mn_X5_72 sta_yX6_at dX5_changeByDraws_14 rfl rfl (by decide) (by decide) (Nat.le_of_ble_eq_true rfl) (fun _ => rfl) ?_
  refine c_X6_at (ks3 hb) (by omega) (by decide) ho ?_
  refine xj_iconst (pc2 := 18) dX5_changeByDraws_17 rfl ?_
  refine xj_cmp_eq (pc2 := 21) (tgt := 27) dX5_changeByDraws_18 rfl rfl (by omega) (by omega) (fun c_18 => ?_) (fun c_18 => ?_)
  · -- 27
    rw [if_pos (hoi.mp c_18)] at hq
    refine xj_aload_n (pc2 := 28) dX5_changeByDraws_27 rfl rfl rfl ?_
    refine xj_aload_n (pc2 := 29) dX5_changeByDraws_28 rfl rfl rfl ?_
    refine xj_getI (pc2 := 32) (kz := 12) fok_X5_49 dX5_changeByDraws_29 rfl rfl (ks hb) (by decide) rfl ((hset_nc b8).trans hw) ?_
    refine xj_V1I (pc2 := 35) (d2 := 0) mok_X1_next ml_X5_126 ima_yX1_next sel_yX1_next rfl rfl dX5_changeByDraws_32 rfl rfl (by decide) (by decide) (Nat.le_of_ble_eq_true rfl) (fun _ => rfl) ?_
    refine c_X1_next (by first | assumption | exact hset_eq _ _ _ _) (by omega) (by omega) ?_
    refine xj_istore3 (pc2 := 36) dX5_changeByDraws_35 rfl rfl (by decide) rfl ?_
    refine xj_aload_n (pc2 := 37) dX5_changeByDraws_36 rfl rfl rfl ?_
    refine xj_iconst (pc2 := 38) dX5_changeByDraws_37 rfl ?_
    refine xj_V1I (pc2 := 41) (d2 := 0) mok_X1_next ml_X5_126 ima_yX1_next sel_yX1_next rfl rfl dX5_changeByDraws_38 rfl rfl (by decide) (by decide) (Nat.le_of_ble_eq_true rfl) (fun _ => rfl) ?_
    refine c_X1_next (by first | assumption | exact hset_eq _ _ _ _) (by omega) (by omega) ?_
    refine xj_istore4 (pc2 := 43) dX5_changeByDraws_41 rfl (by decide) rfl ?_
    refine xj_aload_n (pc2 := 44) dX5_changeByDraws_43 rfl rfl rfl ?_
    refine xj_iload_n (pc2 := 45) dX5_changeByDraws_44 rfl rfl rfl ?_
    refine xj_iload (pc2 := 47) dX5_changeByDraws_45 rfl rfl ?_
    have hgo := goZ_spec hW (2 * drw (sdz s) (S 6 1) + drw (sdz (sdz s)) 2)
    refine xj_V2I (pc2 := 50) (d2 := 1) mok_X5_gloveOn ml_X5_135 ima_yX5_gloveOn sel_yX5_gloveOn rfl (ks hb) dX5_changeByDraws_47 rfl rfl (by decide) (by decide) (Nat.le_of_ble_eq_true rfl) (fun _ => rfl) ?_
    refine c_X5_gloveOn2 hb (by first | exact hR | exact r888 _ _ _) hW (by omega) (by omega) ?_
    refine xj_iconst (pc2 := 51) dX5_changeByDraws_50 rfl ?_
    refine xj_cmp_ne (pc2 := 54) (tgt := 62) dX5_changeByDraws_51 rfl rfl (by omega) (by omega) (fun c_51 => ?_) (fun c_51 => ?_)
    · -- 62
      rw [if_neg c_51] at hq
      refine xj_vret dX5_changeByDraws_62 rfl ?_
      first
      | exact hq _ (r888 _ _ _) (hset_eq _ _ _ _) (fun c k h1 h2 h3 => by rw [hset_nc h1, hset_nc h1, hset_nc h1])
      | (have hfin := RC_hand (g := drw s (S 6 0)) (x := 2 * drw (sdz s) (S 6 1) + drw (sdz (sdz s)) 2) (r888 (sdz s) (sdz (sdz s)) (sdz (sdz (sdz s))))
         have eh : hold (2 * drw (sdz s) (S 6 1) + drw (sdz (sdz s)) 2) = drw (sdz s) (S 6 1) := by unfold hold; rw [if_neg (by omega)]; omega
         have es : side (2 * drw (sdz s) (S 6 1) + drw (sdz (sdz s)) 2) = drw (sdz (sdz s)) 2 := by unfold side; rw [if_neg (by omega)]; omega
         rw [eh, es] at hfin
         exact hq _ hfin (by rw [hset_nc (fun q => c8 4 (by decide) q.symm), hset_nc (fun q => c8 3 (by decide) q.symm), hset_eq]) (fun c k h1 h2 h3 => by rw [hset_nc h3, hset_nc h2, hset_nc h1, hset_nc h1, hset_nc h1]))
    · -- 54
      rw [if_pos c_51] at hq
      refine xj_aload_n (pc2 := 55) dX5_changeByDraws_54 rfl rfl rfl ?_
      refine xj_iload_n (pc2 := 56) dX5_changeByDraws_55 rfl rfl rfl ?_
      refine xj_iload_n (pc2 := 57) dX5_changeByDraws_56 rfl rfl rfl ?_
      refine xj_iload (pc2 := 59) dX5_changeByDraws_57 rfl rfl ?_
      refine xj_V3V (pc2 := 62) (d2 := 1) mok_X5_putOn ml_X5_138 ima_yX5_putOn sel_yX5_putOn rfl (ks hb) dX5_changeByDraws_59 rfl rfl (by decide) (by decide) (Nat.le_of_ble_eq_true rfl) (fun _ => rfl) ?_
      refine c_X5_putOn hb (by omega) ?_
      refine xj_vret dX5_changeByDraws_62 rfl ?_
      first
      | exact hq _ (r888 _ _ _) (hset_eq _ _ _ _) (fun c k h1 h2 h3 => by rw [hset_nc h1, hset_nc h1, hset_nc h1])
      | (have hfin := RC_hand (g := drw s (S 6 0)) (x := 2 * drw (sdz s) (S 6 1) + drw (sdz (sdz s)) 2) (r888 (sdz s) (sdz (sdz s)) (sdz (sdz (sdz s))))
         have eh : hold (2 * drw (sdz s) (S 6 1) + drw (sdz (sdz s)) 2) = drw (sdz s) (S 6 1) := by unfold hold; rw [if_neg (by omega)]; omega
         have es : side (2 * drw (sdz s) (S 6 1) + drw (sdz (sdz s)) 2) = drw (sdz (sdz s)) 2 := by unfold side; rw [if_neg (by omega)]; omega
         rw [eh, es] at hfin
         exact hq _ hfin (by rw [hset_nc (fun q => c8 4 (by decide) q.symm), hset_nc (fun q => c8 3 (by decide) q.symm), hset_eq]) (fun c k h1 h2 h3 => by rw [hset_nc h3, hset_nc h2, hset_nc h1, hset_nc h1, hset_nc h1]))
  · -- 21
    rw [if_neg (fun q => c_18 (hoi.mpr q))] at hq
    refine xj_aload_n (pc2 := 22) dX5_changeByDraws_21 rfl rfl rfl ?_
    refine xj_iload_n (pc2 := 23) dX5_changeByDraws_22 rfl rfl rfl ?_
    refine xj_V1V (pc2 := 26) (d2 := 1) mok_X5_takeOff ml_X5_131 ima_yX5_takeOff sel_yX5_takeOff rfl (ks hb) dX5_changeByDraws_23 rfl rfl (by decide) (by decide) (Nat.le_of_ble_eq_true rfl) (fun _ => rfl) ?_
    refine c_X5_takeOff hb (by omega) ?_
    refine xj_vret dX5_changeByDraws_26 rfl ?_
    have hfin := RC_hand (g := drw s (S 6 0)) (x := -1) (r8 (sdz s))
    exact hq _ hfin (by rw [hset_nc (fun q => c8 4 (by decide) q.symm), hset_nc (fun q => c8 3 (by decide) q.symm), hset_eq]) (fun c k h1 h2 h3 => by rw [hset_nc h3, hset_nc h2, hset_nc h1])
