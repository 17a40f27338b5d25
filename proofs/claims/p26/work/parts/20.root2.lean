/-! the class's own calls: what is done, what would be -/
theorem RC_mark {b : Nat} {S : Sh} {h : Hp} {g x : Int} (hR : RC b S h) : RC b (hset S 1 g x) (hset h (ch b 1) g x) := by
  obtain ⟨⟨a1, a2, a3, a4⟩, hG, hN, hE⟩ := hR
  have e1 : ∀ k : Nat, k ≠ 1 → (ch b k = ch b 1) = False := fun k hik => eq_false (ch_in hik)
  have e3 : (b = ch b 1) = False := eq_false (bne_ch b 1)
  refine ⟨⟨by simpa [hset, e3] using a1, by simpa [hset, e3] using a2, by simpa [hset, e3] using a3, by simpa [hset, e3] using a4⟩, fun g' h0 h1 => ?_, fun w h0 h1 => ?_, fun i h0 h1 => ?_⟩
  · obtain ⟨b1, b2, b3, b4, b5⟩ := hG g' h0 (by simpa [hset] using h1)
    refine ⟨by simpa [hset, e1] using b1, ?_, by simpa [hset, e1] using b3, by simpa [hset, e1] using b4, by simpa [hset, e1] using b5⟩
    by_cases e : g' = g
    · subst e; rw [hset_eq, hset_eq]
    · rw [hset_nk e, hset_nk e, b2]
  · obtain ⟨b1, b2⟩ := hN w h0 (by simpa [hset] using h1)
    exact ⟨by simpa [hset, e1] using b1, by simpa [hset, e1] using b2⟩
  · obtain ⟨b1, b2, b3⟩ := hE i h0 (by simpa [hset] using h1)
    exact ⟨by simpa [hset, e1] using b1, by simpa [hset, e1] using b2, by simpa [hset, e1] using b3⟩
theorem RC_wish {b : Nat} {S : Sh} {h : Hp} {w n x : Int} (hR : RC b S h) : RC b (hset (hset S 4 w n) 5 w x) (hset (hset h (ch b 5) w n) (ch b 6) w x) := by
  obtain ⟨⟨a1, a2, a3, a4⟩, hG, hN, hE⟩ := hR
  have e1 : ∀ k : Nat, k ≠ 5 → (ch b k = ch b 5) = False := fun k hik => eq_false (ch_in hik)
  have e2 : ∀ k : Nat, k ≠ 6 → (ch b k = ch b 6) = False := fun k hik => eq_false (ch_in hik)
  have e3 : (b = ch b 5) = False := eq_false (bne_ch b 5)
  have e4 : (b = ch b 6) = False := eq_false (bne_ch b 6)
  refine ⟨⟨by simpa [hset, e3, e4] using a1, by simpa [hset, e3, e4] using a2, by simpa [hset, e3, e4] using a3, by simpa [hset, e3, e4] using a4⟩, fun g' h0 h1 => ?_, fun w' h0 h1 => ?_, fun i h0 h1 => ?_⟩
  · obtain ⟨b1, b2, b3, b4, b5⟩ := hG g' h0 (by simpa [hset] using h1)
    exact ⟨by simpa [hset, e1, e2] using b1, by simpa [hset, e1, e2] using b2, by simpa [hset, e1, e2] using b3, by simpa [hset, e1, e2] using b4, by simpa [hset, e1, e2] using b5⟩
  · obtain ⟨b1, b2⟩ := hN w' h0 (by simpa [hset] using h1)
    by_cases e : w' = w
    · subst e
      exact ⟨by simp [hset, e2], by simp [hset]⟩
    · exact ⟨by simpa [hset, e, e2] using b1, by simpa [hset, e, e1] using b2⟩
  · obtain ⟨b1, b2, b3⟩ := hE i h0 (by simpa [hset] using h1)
    exact ⟨by simpa [hset, e1, e2] using b1, by simpa [hset, e1, e2] using b2, by simpa [hset, e1, e2] using b3⟩
theorem RC_forget {b : Nat} {S : Sh} {h : Hp} (hR : RC b S h) : RC b (hset S 6 3 0) (hset h b 14 0) := by
  obtain ⟨⟨a1, a2, a3, a4⟩, hG, hN, hE⟩ := hR
  have e1 : ∀ k : Nat, (ch b k = b) = False := fun k => eq_false (ch_bne b k)
  refine ⟨⟨by simpa [hset] using a1, by simpa [hset] using a2, by simpa [hset] using a3, by simp [hset]⟩, fun g' h0 h1 => ?_, fun w' h0 h1 => ?_, fun i h0 h1 => ?_⟩
  · obtain ⟨b1, b2, b3, b4, b5⟩ := hG g' h0 (by simpa [hset] using h1)
    exact ⟨by simpa [hset, e1] using b1, by simpa [hset, e1] using b2, by simpa [hset, e1] using b3, by simpa [hset, e1] using b4, by simpa [hset, e1] using b5⟩
  · obtain ⟨b1, b2⟩ := hN w' h0 (by simpa [hset] using h1)
    exact ⟨by simpa [hset, e1] using b1, by simpa [hset, e1] using b2⟩
  · exfalso
    rw [hset_eq] at h1
    omega
theorem KC_shop {S S' I : Sh} {len : Int} {pg : Int → Int} {im tr td : Int} {h h' : Hp} (hK : KC S I len pg im tr td h) (hR : RC 2 S' h') (e : ∀ c k, c ≠ 2 → (∀ i, i < 10 → c ≠ ch 2 i) → h' c k = h c k) : KC S' I len pg im tr td h' := by
  obtain ⟨k1, k2, k3, k4, k5, k6⟩ := hK
  have z : ∀ c k, c ≠ 2 → (c < 33 ∨ 43 ≤ c) → h' c k = h c k := fun c k h1 h2 => e c k h1 (fun i hi => by unfold ch; omega)
  refine ⟨hR, fun q => RC_eq (k2 q) (fun k => z 3 k (by decide) (by decide)) (fun i k hi => z _ k (by unfold ch; omega) (by unfold ch; omega)), RP_eq k3 (fun k => z 1 k (by decide) (by decide)) (fun k => z 17 k (by decide) (by decide)), ?_, ?_, ?_⟩
  · rw [z 0 _ (by decide) (by decide), k4]
  · rw [z 0 _ (by decide) (by decide), k5]
  · rw [z 0 _ (by decide) (by decide), k6]
theorem FrC_shop {h h' : Hp} (e : ∀ c k, c ≠ 2 → (∀ i, i < 10 → c ≠ ch 2 i) → h' c k = h c k) : FrC h h' := fun c k hc => e c k (by omega) (fun i hi => by unfold ch; omega)
def nwG (len : Int) (pg : Int → Int) : Int := (semZ len pg + 1) / 3
def nwW (len : Int) (pg : Int → Int) : Int := len - semZ len pg - 1
theorem fnd_neg {p : Nat → Bool} : ∀ n, fnd p n = -1 → ∀ j, j < n → p j = false
  | 0, _, j, hj => by omega
  | n + 1, h, j, hj => by
    unfold fnd at h
    split at h
    · rename_i h2
      split at h
      · omega
      · rename_i hp
        by_cases e : j = n
        · subst e; simpa using hp
        · exact fnd_neg n h2 j (by omega)
    · rename_i h2; exact absurd h h2
theorem fnd_first {p : Nat → Bool} {s : Nat} : ∀ n, fnd p n = (s : Int) → p s = true ∧ s < n ∧ ∀ j, j < s → p j = false
  | 0, h => by have : (-1 : Int) = s := h; omega
  | n + 1, h => by
    unfold fnd at h
    split at h
    · rename_i h2
      split at h
      · rename_i hp
        have e : n = s := by omega
        subst e
        exact ⟨hp, by omega, fnd_neg n h2⟩
      · omega
    · obtain ⟨a, b, c⟩ := fnd_first n h
      exact ⟨a, by omega, c⟩
/-- what a page that is a shop looks like -/
theorem shopP_fact {len : Int} {pg : Int → Int} (h0 : 0 ≤ len) (h : shopP len pg) : (2 ≤ nwG len pg ∧ nwG len pg ≤ 6) ∧ (1 ≤ nwW len pg ∧ nwW len pg ≤ 3) ∧ len = 3 * nwG len pg + nwW len pg ∧ semZ len pg = 3 * nwG len pg - 1 ∧ (∀ i : Nat, (i : Int) < len → okP len pg i) := by
  obtain ⟨h1, h2, h3⟩ := h
  have hr := sem_rg len h0 pg
  have hall : ∀ i : Nat, (i : Int) < len → okP len pg i := by
    intro i hi
    apply Classical.byContradiction
    intro hn
    have key : ∀ m : Nat, (m : Int) < len → ¬ okP len pg m → fltZ len pg ≠ len := by
      intro m
      induction m using Nat.strongRecOn with
      | ind m ih =>
        intro hm hbad
        by_cases hb : ∃ m', m' < m ∧ ¬ okP len pg m'
        · obtain ⟨m', hlt, hb2⟩ := hb
          exact ih m' hlt (by omega) hb2
        · have hgood : ∀ i : Nat, i < m → okP len pg i := fun i hi => Classical.byContradiction (fun q => hb ⟨i, hi, q⟩)
          rw [flt_at hm hgood hbad]
          omega
    exact key i hi hn h3
  obtain ⟨s, hs⟩ := Int.eq_ofNat_of_zero_le (show 0 ≤ semZ len pg by omega)
  obtain ⟨hps, hsn, hfirst⟩ := fnd_first (p := semP pg) (s := s) len.toNat (by rw [← hs]; rfl)
  have hpg : pg s = 59 := of_decide_eq_true hps
  have h17 : s ≤ 17 := by
    apply Classical.byContradiction
    intro hn
    have ho := (hall 17 (by omega)).2 (by omega)
    have hf := of_decide_eq_false (hfirst 17 (by omega))
    have e17 : ((17 : Nat) : Int) = 17 := rfl
    rw [e17] at ho hf
    unfold ofGP at ho
    omega
  have hok := hall s (by omega)
  have ho := hok.2 (by omega)
  unfold ofGP at ho
  rw [hpg] at ho
  have hk59 : kindz 59 = -1 := rfl
  have hlast := hall (len - 1).toNat (by omega)
  have hl2 := hlast.1 (by omega)
  unfold nervP at hl2
  unfold nwG nwW
  have e1 : (((len - 1).toNat : Nat) : Int) = len - 1 := by omega
  rw [e1] at hl2
  refine ⟨?_, ?_, ?_, ?_, hall⟩ <;> omega
theorem c_X6_shop {S I : Sh} {len : Int} {pg : Int → Int} {im tr td : Int} {h : Hp} {Q : Int → Hp → Prop} (hK : KC S I len pg im tr td h) (h1 : shopP len pg → ∀ h', KC (newS pg (nwG len pg) (nwW len pg)) I 0 pg 0 (tr + 1) td h' → FrC h h' → Q (nwG len pg) h') (h0 : ¬ shopP len pg → ∀ h', KC S I len pg im tr td h' → FrC h h' → Q (-103) h') : CJ 5 kX6_shop [.ref 0] h Q := by
  obtain ⟨hR, hI, hP, hk8, hk9, hk10⟩ := id hK
  obtain ⟨hl, hlr, hpg⟩ := id hP
  refine cj_of (lo := [some (.ref 0)]) mok_X6_shop (fun _ => rfl) (fun _ => Nat.le_of_ble_eq_true rfl) ?_
  refine xj_aload_n (pc2 := 1) dX6_shop_0 rfl rfl rfl ?_
  refine xj_getRn (pc2 := 4) (c2 := 1) fok_X6_12 dX6_shop_1 rfl rfl rfl rfl rfl ?_
  refine xj_V0I (pc2 := 7) (d2 := 4) mok_X4_isShop ml_X6_73 ima_yX4_isShop sel_yX4_isShop rfl rfl dX6_shop_4 rfl rfl (by decide) (by decide) (Nat.le_of_ble_eq_true rfl) (fun _ => rfl) ?_
  refine c_X4_isShop hP ?_ ?_
  · -- X4_isShop = 1
    intro c_4
    refine xj_if_ne (pc2 := 10) (tgt := 13) dX6_shop_7 rfl rfl (by omega) (fun c_7 => ?_) (fun c_7 => absurd c_7 (by decide))
    obtain ⟨hn2, hw2, hlen2, hsem2, -⟩ := shopP_fact hlr.1 c_4
    refine xj_aload_n (pc2 := 14) dX6_shop_13 rfl rfl rfl ?_
    refine xj_getRn (pc2 := 17) (c2 := 1) fok_X6_12 dX6_shop_14 rfl rfl rfl rfl rfl ?_
    refine xj_aload_n (pc2 := 18) dX6_shop_17 rfl rfl rfl ?_
    refine xj_getRn (pc2 := 21) (c2 := 2) fok_X6_19 dX6_shop_18 rfl rfl rfl rfl rfl ?_
    refine xj_V1V (pc2 := 24) (d2 := 2) mok_X4_readInto ml_X6_77 ima_yX4_readInto sel_yX4_readInto rfl rfl dX6_shop_21 rfl rfl (by decide) (by decide) (Nat.le_of_ble_eq_true rfl) (fun _ => rfl) ?_
    refine c_X4_readInto hP hn2 hw2 hlen2 hsem2 ?_
    intro h2 hR2 hf2
    refine xj_aload_n (pc2 := 25) dX6_shop_24 rfl rfl rfl ?_
    refine xj_getRn (pc2 := 28) (c2 := 1) fok_X6_12 dX6_shop_25 rfl rfl rfl rfl rfl ?_
    refine xj_iconst (pc2 := 29) dX6_shop_28 rfl ?_
    refine xj_putI (pc2 := 32) (kz := 1) fok_X6_65 dX6_shop_29 rfl rfl rfl rfl rfl ?_
    refine xj_aload_n (pc2 := 33) dX6_shop_32 rfl rfl rfl ?_
    refine xj_iconst (pc2 := 34) dX6_shop_33 rfl ?_
    refine xj_putZ (pc2 := 37) (kz := 8) fok_X6_81 dX6_shop_34 rfl rfl rfl rfl rfl (by omega) ?_
    refine xj_aload_n (pc2 := 38) dX6_shop_37 rfl rfl rfl ?_
    refine xj_dup (pc2 := 39) dX6_shop_38 rfl rfl ?_
    refine xj_getI (pc2 := 42) (kz := 9) fok_X6_85 dX6_shop_39 rfl rfl rfl (by decide) rfl ((hset_nk (by decide)).trans ((hset_nc (by decide)).trans ((hf2 0 9 (by decide) (fun i hi => by unfold ch; omega)).trans hk9))) ?_
    refine xj_iconst (pc2 := 43) dX6_shop_42 rfl ?_
    refine xj_iadd (pc2 := 44) dX6_shop_43 rfl ?_
    refine xj_putI (pc2 := 47) (kz := 9) fok_X6_85 dX6_shop_44 rfl rfl rfl rfl rfl ?_
    refine xj_aload_n (pc2 := 48) dX6_shop_47 rfl rfl rfl ?_
    refine xj_getRn (pc2 := 51) (c2 := 2) fok_X6_19 dX6_shop_48 rfl rfl rfl rfl rfl ?_
    refine xj_getI (pc2 := 54) (kz := 11) fok_X6_88 dX6_shop_51 rfl rfl rfl (by decide) rfl ((hset_nc (by decide)).trans ((hset_nc (by decide)).trans ((hset_nc (by decide)).trans hR2.1.1))) ?_
    refine xj_iret dX6_shop_54 rfl ?_
    have hz : ∀ c k, c ≠ 2 → (c < 33 ∨ 43 ≤ c) → c ≠ 0 → c ≠ 1 → hset (hset (hset h2 1 1 0) 0 8 0) 0 9 (tr + 1) c k = h c k := fun c k q1 q2 q3 q4 => by
      rw [hset_nc q3, hset_nc q3, hset_nc q4]
      exact hf2 c k q1 (fun i hi => by unfold ch; omega)
    have hz2 : ∀ c k, c ≠ 0 → c ≠ 1 → hset (hset (hset h2 1 1 0) 0 8 0) 0 9 (tr + 1) c k = h2 c k := fun c k q3 q4 => by rw [hset_nc q3, hset_nc q3, hset_nc q4]
    refine h1 c_4 _ ⟨RC_eq hR2 (fun k => hz2 2 k (by decide) (by decide)) (fun i k hi => hz2 _ k (by unfold ch; omega) (by unfold ch; omega)), fun q => by exfalso; omega, ⟨?_, by decide, fun i a b => by exfalso; omega⟩, ?_, hset_eq _ _ _ _, ?_⟩ (fun c k hc => hz c k (by omega) (by omega) (by omega) (by omega))
    · rw [hset_nc (by decide), hset_nc (by decide), hset_eq]
    · rw [hset_nk (by decide), hset_eq]
    · rw [hset_nk (by decide), hset_nk (by decide), hset_nc (by decide), hf2 0 10 (by decide) (fun i hi => by unfold ch; omega)]
      exact hk10
  · -- X4_isShop = 0
    intro c_4
    refine xj_if_ne (pc2 := 10) (tgt := 13) dX6_shop_7 rfl rfl (by omega) (fun c_7 => absurd c_7 (by decide)) (fun c_7 => ?_)
    refine xj_bipush (pc2 := 12) dX6_shop_10 rfl (by decide) ?_
    refine xj_iret dX6_shop_12 rfl ?_
    exact h0 c_4 h hK FrC_rf
def okW (S : Sh) (g w s : Int) : Prop := (0 ≤ g ∧ g < S 6 0) ∧ (0 ≤ w ∧ w < S 6 1) ∧ (0 ≤ s ∧ s ≤ 1) ∧ S 3 g = -1 ∧ goZ S (2 * w + s) = -1
def wearR (S : Sh) (g w s : Int) : Int := if ¬ ((0 ≤ g ∧ g < S 6 0) ∧ (0 ≤ w ∧ w < S 6 1)) then -101 else if ¬ (0 ≤ s ∧ s ≤ 1) then -102 else -103
theorem hold_m {x : Int} (h : -1 ≤ x) : hold x = -1 ↔ x = -1 := by
  unfold hold
  constructor
  · intro q; split at q <;> omega
  · intro q; rw [if_pos (by omega)]
theorem hold_2 {w s : Int} (hw : 0 ≤ w) (hs : 0 ≤ s ∧ s ≤ 1) : hold (2 * w + s) = w ∧ side (2 * w + s) = s := by
  unfold hold side
  rw [if_neg (by omega), if_neg (by omega)]
  omega
theorem c_X6_wear {S I : Sh} {len g w s : Int} {pg : Int → Int} {im tr td : Int} {h : Hp} {Q : Int → Hp → Prop} (hK : KC S I len pg im tr td h) (hKW : KW S I im tr td) (hg : -2147483648 ≤ g ∧ g ≤ 2147483647) (hw0 : -2147483648 ≤ w ∧ w ≤ 2147483647) (hs0 : -2147483648 ≤ s ∧ s ≤ 2147483647) (h1 : okW S g w s → ∀ h', KC (hset S 3 g (2 * w + s)) I len pg im tr td h' → FrC h h' → Q (moodN (hset S 3 g (2 * w + s)) w) h') (h0 : ¬ okW S g w s → ∀ h', KC S I len pg im tr td h' → FrC h h' → Q (wearR S g w s) h') : CJ 4 kX6_wear [.ref 0, vi g, vi w, vi s] h Q := by
  obtain ⟨hR, hI, hP, hk8, hk9, hk10⟩ := id hK
  have hW := hKW.1
  obtain ⟨⟨hn, hw, hh, hs⟩, hG, hN, hE⟩ := id hR
  have hnn := wf_n hW
  unfold okW at h1 h0
  refine cj_of (lo := [some (.ref 0), some (vi g), some (vi w), some (vi s)]) mok_X6_wear (fun _ => rfl) (fun _ => Nat.le_of_ble_eq_true rfl) ?_
  refine xj_aload_n (pc2 := 1) dX6_wear_0 rfl rfl rfl ?_
  refine xj_getRn (pc2 := 4) (c2 := 2) fok_X6_19 dX6_wear_1 rfl rfl rfl rfl rfl ?_
  refine xj_iload_n (pc2 := 5) dX6_wear_4 rfl rfl rfl ?_
  refine xj_V1I (pc2 := 8) (d2 := 0) mok_X5_hasGlove ml_X6_91 ima_yX5_hasGlove sel_yX5_hasGlove rfl rfl dX6_wear_5 rfl rfl (by decide) (by decide) (Nat.le_of_ble_eq_true rfl) (fun _ => rfl) ?_
  refine c_X5_hasGlove (Or.inl rfl) hR hW (by omega) ?_ ?_
  · -- X5_hasGlove = 1
    intro c_5
    refine xj_if_eq (pc2 := 11) (tgt := 22) dX6_wear_8 rfl rfl (by omega) (fun c_8 => absurd c_8 (by decide)) (fun c_8 => ?_)
    refine xj_aload_n (pc2 := 12) dX6_wear_11 rfl rfl rfl ?_
    refine xj_getRn (pc2 := 15) (c2 := 2) fok_X6_19 dX6_wear_12 rfl rfl rfl rfl rfl ?_
    refine xj_iload_n (pc2 := 16) dX6_wear_15 rfl rfl rfl ?_
    refine xj_V1I (pc2 := 19) (d2 := 0) mok_X5_hasWearer ml_X6_132 ima_yX5_hasWearer sel_yX5_hasWearer rfl rfl dX6_wear_16 rfl rfl (by decide) (by decide) (Nat.le_of_ble_eq_true rfl) (fun _ => rfl) ?_
    refine c_X5_hasWearer (Or.inl rfl) hR hW (by omega) ?_ ?_
    · -- X5_hasWearer = 1
      intro c_16
      refine xj_if_ne (pc2 := 22) (tgt := 25) dX6_wear_19 rfl rfl (by omega) (fun c_19 => ?_) (fun c_19 => absurd c_19 (by decide))
      refine xj_iload_n (pc2 := 26) dX6_wear_25 rfl rfl rfl ?_
      refine xj_iconst (pc2 := 27) dX6_wear_26 rfl ?_
      refine xj_iconst (pc2 := 28) dX6_wear_27 rfl ?_
      refine xj_S3I (pc2 := 31) (d2 := 0) mok_X6_within ml_X6_57 sta_yX6_within dX6_wear_28 rfl rfl (by decide) (by decide) (Nat.le_of_ble_eq_true rfl) (fun _ => rfl) ?_
      refine c_X6_within (by omega) (by omega) (by omega) ?_ ?_
      · -- X6_within = 1
        intro c_28
        refine xj_if_ne (pc2 := 34) (tgt := 37) dX6_wear_31 rfl rfl (by omega) (fun c_31 => ?_) (fun c_31 => absurd c_31 (by decide))
        have hwg := wf_g hW c_5
        have hho := hold_m (x := S 3 g) (by omega)
        have hhb := hold_b hW c_5
        refine xj_aload_n (pc2 := 38) dX6_wear_37 rfl rfl rfl ?_
        refine xj_getRn (pc2 := 41) (c2 := 2) fok_X6_19 dX6_wear_38 rfl rfl rfl rfl rfl ?_
        refine xj_getRn (pc2 := 44) (c2 := 36) fok_X6_112 dX6_wear_41 rfl rfl rfl rfl rfl ?_
        refine xj_iload_n (pc2 := 45) dX6_wear_44 rfl rfl rfl ?_
        refine xj_S2I (pc2 := 48) (d2 := 0) mok_X6_at ml_X6_98 sta_yX6_at dX6_wear_45 rfl rfl (by decide) (by decide) (Nat.le_of_ble_eq_true rfl) (fun _ => rfl) ?_
        refine c_X6_at rfl (by omega) (by decide) (hG _ (by omega) (by omega)).2.2.2.1 ?_
        refine xj_iconst (pc2 := 49) dX6_wear_48 rfl ?_
        refine xj_cmp_ne (pc2 := 52) (tgt := 65) dX6_wear_49 rfl rfl (by omega) (by omega) (fun c_49 => ?_) (fun c_49 => ?_)
        · -- 65
          refine xj_bipush (pc2 := 67) dX6_wear_65 rfl (by decide) ?_
          refine xj_iret dX6_wear_67 rfl ?_
          exact q_eq (by unfold wearR; (repeat' split) <;> first | (exfalso; omega) | rfl | omega) (h0 (by omega) h hK FrC_rf)
        · -- 52
          refine xj_aload_n (pc2 := 53) dX6_wear_52 rfl rfl rfl ?_
          refine xj_getRn (pc2 := 56) (c2 := 2) fok_X6_19 dX6_wear_53 rfl rfl rfl rfl rfl ?_
          refine xj_iload_n (pc2 := 57) dX6_wear_56 rfl rfl rfl ?_
          refine xj_iload_n (pc2 := 58) dX6_wear_57 rfl rfl rfl ?_
          have hgo := goZ_spec hW (2 * w + s)
          refine xj_V2I (pc2 := 61) (d2 := 1) mok_X5_gloveOn ml_X6_141 ima_yX5_gloveOn sel_yX5_gloveOn rfl rfl dX6_wear_58 rfl rfl (by decide) (by decide) (Nat.le_of_ble_eq_true rfl) (fun _ => rfl) ?_
          refine c_X5_gloveOn2 (Or.inl rfl) (by first | exact hR | exact r888 _ _ _) hW (by omega) (by omega) ?_
          refine xj_iconst (pc2 := 62) dX6_wear_61 rfl ?_
          refine xj_cmp_eq (pc2 := 65) (tgt := 68) dX6_wear_62 rfl rfl (by omega) (by omega) (fun c_62 => ?_) (fun c_62 => ?_)
          · -- 68
            refine xj_aload_n (pc2 := 69) dX6_wear_68 rfl rfl rfl ?_
            refine xj_getRn (pc2 := 72) (c2 := 2) fok_X6_19 dX6_wear_69 rfl rfl rfl rfl rfl ?_
            refine xj_iload_n (pc2 := 73) dX6_wear_72 rfl rfl rfl ?_
            refine xj_iload_n (pc2 := 74) dX6_wear_73 rfl rfl rfl ?_
            refine xj_iload_n (pc2 := 75) dX6_wear_74 rfl rfl rfl ?_
            refine xj_V3V (pc2 := 78) (d2 := 1) mok_X5_putOn ml_X6_159 ima_yX5_putOn sel_yX5_putOn rfl rfl dX6_wear_75 rfl rfl (by decide) (by decide) (Nat.le_of_ble_eq_true rfl) (fun _ => rfl) ?_
            refine c_X5_putOn (Or.inl rfl) (by omega) ?_
            have hoo := hold_2 (w := w) (s := s) (by omega) (by omega)
            have hR2 := RC_hand (g := g) (x := 2 * w + s) hR
            rw [hoo.1, hoo.2] at hR2
            have hok : (0 ≤ g ∧ g < S 6 0) ∧ (0 ≤ w ∧ w < S 6 1) ∧ (0 ≤ s ∧ s ≤ 1) ∧ S 3 g = -1 ∧ goZ S (2 * w + s) = -1 := by omega
            have hW2 : WF (hset S 3 g (2 * w + s)) := WF_hand hW c_5 (Or.inr ⟨by omega, by omega, by rcases hgo with q | q; exact q.2; exfalso; omega⟩)
            have hR := hR2
            have hW := hW2
            have hs61 : hset S 3 g (2 * w + s) 6 1 = S 6 1 := hset_nc (by decide)
            refine xj_aload_n (pc2 := 79) dX6_wear_78 rfl rfl rfl ?_
            refine xj_getRn (pc2 := 82) (c2 := 2) fok_X6_19 dX6_wear_79 rfl rfl rfl rfl rfl ?_
            refine xj_iload_n (pc2 := 83) dX6_wear_82 rfl rfl rfl ?_
            refine xj_iconst (pc2 := 84) dX6_wear_83 rfl ?_
            refine xj_V2I (pc2 := 87) (d2 := 3) mok_X5_moodOf ml_X6_138 ima_yX5_moodOf sel_yX5_moodOf rfl rfl dX6_wear_84 rfl rfl (by decide) (by decide) (Nat.le_of_ble_eq_true rfl) (fun _ => rfl) ?_
            refine c_X5_moodOf (Or.inl rfl) hR hW (by rw [hs61]; omega) (by omega) ?_
            refine xj_iret dX6_wear_87 rfl ?_
            have he : ∀ c k, c ≠ 2 → (∀ i, i < 10 → c ≠ ch 2 i) → hset (hset h 36 g w) 37 g s c k = h c k := fun c k q1 q2 => (hset_nc (q2 4 (by decide))).trans (hset_nc (q2 3 (by decide)))
            exact h1 hok _ (KC_shop hK hR he) (FrC_shop he)
          · -- 65
            refine xj_bipush (pc2 := 67) dX6_wear_65 rfl (by decide) ?_
            refine xj_iret dX6_wear_67 rfl ?_
            exact q_eq (by unfold wearR; (repeat' split) <;> first | (exfalso; omega) | rfl | omega) (h0 (by omega) h hK FrC_rf)
      · -- X6_within = 0
        intro c_28
        refine xj_if_ne (pc2 := 34) (tgt := 37) dX6_wear_31 rfl rfl (by omega) (fun c_31 => absurd c_31 (by decide)) (fun c_31 => ?_)
        refine xj_bipush (pc2 := 36) dX6_wear_34 rfl (by decide) ?_
        refine xj_iret dX6_wear_36 rfl ?_
        exact q_eq (by unfold wearR; (repeat' split) <;> first | (exfalso; omega) | rfl | omega) (h0 (by omega) h hK FrC_rf)
    · -- X5_hasWearer = 0
      intro c_16
      refine xj_if_ne (pc2 := 22) (tgt := 25) dX6_wear_19 rfl rfl (by omega) (fun c_19 => absurd c_19 (by decide)) (fun c_19 => ?_)
      refine xj_bipush (pc2 := 24) dX6_wear_22 rfl (by decide) ?_
      refine xj_iret dX6_wear_24 rfl ?_
      exact q_eq (by unfold wearR; (repeat' split) <;> first | (exfalso; omega) | rfl | omega) (h0 (by omega) h hK FrC_rf)
  · -- X5_hasGlove = 0
    intro c_5
    refine xj_if_eq (pc2 := 11) (tgt := 22) dX6_wear_8 rfl rfl (by omega) (fun c_8 => ?_) (fun c_8 => absurd c_8 (by decide))
    refine xj_bipush (pc2 := 24) dX6_wear_22 rfl (by decide) ?_
    refine xj_iret dX6_wear_24 rfl ?_
    exact q_eq (by unfold wearR; (repeat' split) <;> first | (exfalso; omega) | rfl | omega) (h0 (by omega) h hK FrC_rf)
def okO (S : Sh) (g : Int) : Prop := (0 ≤ g ∧ g < S 6 0) ∧ S 3 g ≠ -1
def offR (S : Sh) (g : Int) : Int := if ¬ (0 ≤ g ∧ g < S 6 0) then -101 else -103
theorem c_X6_off {S I : Sh} {len g : Int} {pg : Int → Int} {im tr td : Int} {h : Hp} {Q : Int → Hp → Prop} (hK : KC S I len pg im tr td h) (hKW : KW S I im tr td) (hg : -2147483648 ≤ g ∧ g ≤ 2147483647) (h1 : okO S g → ∀ h', KC (hset S 3 g (-1)) I len pg im tr td h' → FrC h h' → Q (hold (S 3 g)) h') (h0 : ¬ okO S g → ∀ h', KC S I len pg im tr td h' → FrC h h' → Q (offR S g) h') : CJ 2 kX6_off [.ref 0, vi g] h Q := by
  obtain ⟨hR, hI, hP, hk8, hk9, hk10⟩ := id hK
  have hW := hKW.1
  obtain ⟨⟨hn, hw, hh, hs⟩, hG, hN, hE⟩ := id hR
  have hnn := wf_n hW
  unfold okO at h1 h0
  refine cj_of (lo := [some (.ref 0), some (vi g), none]) mok_X6_off (fun _ => rfl) (fun _ => Nat.le_of_ble_eq_true rfl) ?_
  refine xj_aload_n (pc2 := 1) dX6_off_0 rfl rfl rfl ?_
  refine xj_getRn (pc2 := 4) (c2 := 2) fok_X6_19 dX6_off_1 rfl rfl rfl rfl rfl ?_
  refine xj_iload_n (pc2 := 5) dX6_off_4 rfl rfl rfl ?_
  refine xj_V1I (pc2 := 8) (d2 := 0) mok_X5_hasGlove ml_X6_91 ima_yX5_hasGlove sel_yX5_hasGlove rfl rfl dX6_off_5 rfl rfl (by decide) (by decide) (Nat.le_of_ble_eq_true rfl) (fun _ => rfl) ?_
  refine c_X5_hasGlove (Or.inl rfl) hR hW (by omega) ?_ ?_
  · -- X5_hasGlove = 1
    intro c_5
    refine xj_if_ne (pc2 := 11) (tgt := 14) dX6_off_8 rfl rfl (by omega) (fun c_8 => ?_) (fun c_8 => absurd c_8 (by decide))
    have hwg := wf_g hW c_5
    have hho := hold_m (x := S 3 g) (by omega)
    have hhb := hold_b hW c_5
    refine xj_aload_n (pc2 := 15) dX6_off_14 rfl rfl rfl ?_
    refine xj_getRn (pc2 := 18) (c2 := 2) fok_X6_19 dX6_off_15 rfl rfl rfl rfl rfl ?_
    refine xj_getRn (pc2 := 21) (c2 := 36) fok_X6_112 dX6_off_18 rfl rfl rfl rfl rfl ?_
    refine xj_iload_n (pc2 := 22) dX6_off_21 rfl rfl rfl ?_
    refine xj_S2I (pc2 := 25) (d2 := 0) mok_X6_at ml_X6_98 sta_yX6_at dX6_off_22 rfl rfl (by decide) (by decide) (Nat.le_of_ble_eq_true rfl) (fun _ => rfl) ?_
    refine c_X6_at rfl (by omega) (by decide) (hG _ (by omega) (by omega)).2.2.2.1 ?_
    refine xj_istore2 (pc2 := 26) dX6_off_25 rfl rfl (by decide) rfl ?_
    refine xj_iload_n (pc2 := 27) dX6_off_26 rfl rfl rfl ?_
    refine xj_iconst (pc2 := 28) dX6_off_27 rfl ?_
    refine xj_cmp_ne (pc2 := 31) (tgt := 34) dX6_off_28 rfl rfl (by omega) (by omega) (fun c_28 => ?_) (fun c_28 => ?_)
    · -- 34
      refine xj_aload_n (pc2 := 35) dX6_off_34 rfl rfl rfl ?_
      refine xj_getRn (pc2 := 38) (c2 := 2) fok_X6_19 dX6_off_35 rfl rfl rfl rfl rfl ?_
      refine xj_iload_n (pc2 := 39) dX6_off_38 rfl rfl rfl ?_
      refine xj_V1V (pc2 := 42) (d2 := 1) mok_X5_takeOff ml_X6_163 ima_yX5_takeOff sel_yX5_takeOff rfl rfl dX6_off_39 rfl rfl (by decide) (by decide) (Nat.le_of_ble_eq_true rfl) (fun _ => rfl) ?_
      refine c_X5_takeOff (Or.inl rfl) (by omega) ?_
      refine xj_iload_n (pc2 := 43) dX6_off_42 rfl rfl rfl ?_
      refine xj_iret dX6_off_43 rfl ?_
      have hR2 := RC_hand (g := g) (x := -1) hR
      have he : ∀ c k, c ≠ 2 → (∀ i, i < 10 → c ≠ ch 2 i) → hset (hset h 36 g (-1)) 37 g (-1) c k = h c k := fun c k q1 q2 => (hset_nc (q2 4 (by decide))).trans (hset_nc (q2 3 (by decide)))
      exact h1 (by omega) _ (KC_shop hK hR2 he) (FrC_shop he)
    · -- 31
      refine xj_bipush (pc2 := 33) dX6_off_31 rfl (by decide) ?_
      refine xj_iret dX6_off_33 rfl ?_
      exact q_eq (by unfold offR; (repeat' split) <;> first | (exfalso; omega) | rfl | omega) (h0 (by omega) h hK FrC_rf)
  · -- X5_hasGlove = 0
    intro c_5
    refine xj_if_ne (pc2 := 11) (tgt := 14) dX6_off_8 rfl rfl (by omega) (fun c_8 => absurd c_8 (by decide)) (fun c_8 => ?_)
    refine xj_bipush (pc2 := 13) dX6_off_11 rfl (by decide) ?_
    refine xj_iret dX6_off_13 rfl ?_
    exact q_eq (by unfold offR; (repeat' split) <;> first | (exfalso; omega) | rfl | omega) (h0 (by omega) h hK FrC_rf)
def okH (S : Sh) : Prop := 0 < S 6 0 ∧ S 6 2 < 999
def hourR (S : Sh) : Int := if ¬ (0 < S 6 0) then -103 else -104
theorem c_X6_hour {S I : Sh} {len : Int} {pg : Int → Int} {im tr td : Int} {h : Hp} {Q : Int → Hp → Prop} (hK : KC S I len pg im tr td h) (hKW : KW S I im tr td) (h1 : okH S → ∀ h', KC (passS S) I len pg im tr td h' → FrC h h' → Q (S 6 2 + 1) h') (h0 : ¬ okH S → ∀ h', KC S I len pg im tr td h' → FrC h h' → Q (hourR S) h') : CJ 2 kX6_hour [.ref 0] h Q := by
  obtain ⟨hR, hI, hP, hk8, hk9, hk10⟩ := id hK
  have hW := hKW.1
  have h999 := hKW.2.1
  obtain ⟨⟨hn, hw, hh, hs⟩, hG, hN, hE⟩ := id hR
  have hnn := wf_n hW
  unfold okH at h1 h0
  refine cj_of (lo := [some (.ref 0)]) mok_X6_hour (fun _ => rfl) (fun _ => Nat.le_of_ble_eq_true rfl) ?_
  refine xj_aload_n (pc2 := 1) dX6_hour_0 rfl rfl rfl ?_
  refine xj_V0I (pc2 := 4) (d2 := 0) mok_X6_hasShop ml_X6_167 ima_yX6_hasShop sel_yX6_hasShop rfl rfl dX6_hour_1 rfl rfl (by decide) (by decide) (Nat.le_of_ble_eq_true rfl) (fun _ => rfl) ?_
  refine c_X6_hasShop hn (by omega) ?_ ?_
  · -- X6_hasShop = 1
    intro c_1
    refine xj_if_ne (pc2 := 7) (tgt := 10) dX6_hour_4 rfl rfl (by omega) (fun c_4 => ?_) (fun c_4 => absurd c_4 (by decide))
    refine xj_aload_n (pc2 := 11) dX6_hour_10 rfl rfl rfl ?_
    refine xj_getRn (pc2 := 14) (c2 := 2) fok_X6_19 dX6_hour_11 rfl rfl rfl rfl rfl ?_
    refine xj_getI (pc2 := 17) (kz := 13) fok_X6_170 dX6_hour_14 rfl rfl rfl (by decide) rfl (by first | assumption | rfl) ?_
    refine xj_sipush (pc2 := 20) dX6_hour_17 rfl (by decide) ?_
    refine xj_cmp_lt (pc2 := 23) (tgt := 26) dX6_hour_20 rfl rfl (by omega) (by omega) (fun c_20 => ?_) (fun c_20 => ?_)
    · -- 26
      refine xj_aload_n (pc2 := 27) dX6_hour_26 rfl rfl rfl ?_
      refine xj_getRn (pc2 := 30) (c2 := 2) fok_X6_19 dX6_hour_27 rfl rfl rfl rfl rfl ?_
      refine xj_V0V (pc2 := 33) (d2 := 1) mok_X5_passHour ml_X6_173 ima_yX5_passHour sel_yX5_passHour rfl rfl dX6_hour_30 rfl rfl (by decide) (by decide) (Nat.le_of_ble_eq_true rfl) (fun _ => rfl) ?_
      refine c_X5_passHour (Or.inl rfl) hR hW ?_
      intro h2 hR2 hf2
      have he : ∀ c k, c ≠ 2 → (∀ i, i < 10 → c ≠ ch 2 i) → h2 c k = h c k := fun c k q1 q2 => hf2 c k q1 (q2 2 (by decide))
      refine xj_aload_n (pc2 := 34) dX6_hour_33 rfl rfl rfl ?_
      refine xj_getRn (pc2 := 37) (c2 := 2) fok_X6_19 dX6_hour_34 rfl rfl rfl rfl rfl ?_
      refine xj_getI (pc2 := 40) (kz := 13) fok_X6_170 dX6_hour_37 rfl rfl rfl (by decide) rfl (hR2.1.2.2.1.trans passS_h) ?_
      refine xj_iret dX6_hour_40 rfl ?_
      exact h1 (by omega) _ (KC_shop hK hR2 he) (FrC_shop he)
    · -- 23
      refine xj_bipush (pc2 := 25) dX6_hour_23 rfl (by decide) ?_
      refine xj_iret dX6_hour_25 rfl ?_
      exact q_eq (by unfold hourR; (repeat' split) <;> first | (exfalso; omega) | rfl | omega) (h0 (by omega) h hK FrC_rf)
  · -- X6_hasShop = 0
    intro c_1
    refine xj_if_ne (pc2 := 7) (tgt := 10) dX6_hour_4 rfl rfl (by omega) (fun c_4 => absurd c_4 (by decide)) (fun c_4 => ?_)
    refine xj_bipush (pc2 := 9) dX6_hour_7 rfl (by decide) ?_
    refine xj_iret dX6_hour_9 rfl ?_
    exact q_eq (by unfold hourR; (repeat' split) <;> first | (exfalso; omega) | rfl | omega) (h0 (by omega) h hK FrC_rf)
def okB (S : Sh) (g x : Int) : Prop := (0 ≤ g ∧ g < S 6 0) ∧ (0 ≤ x ∧ x ≤ 9)
def bookR (S : Sh) (g : Int) : Int := if ¬ (0 ≤ g ∧ g < S 6 0) then -101 else -102
theorem c_X6_book {S I : Sh} {len g x : Int} {pg : Int → Int} {im tr td : Int} {h : Hp} {Q : Int → Hp → Prop} (hK : KC S I len pg im tr td h) (hKW : KW S I im tr td) (hg : -2147483648 ≤ g ∧ g ≤ 2147483647) (hx : -2147483648 ≤ x ∧ x ≤ 2147483647) (h1 : okB S g x → ∀ h', KC (hset S 1 g x) I len pg im tr td h' → FrC h h' → Q (S 1 g) h') (h0 : ¬ okB S g x → ∀ h', KC S I len pg im tr td h' → FrC h h' → Q (bookR S g) h') : CJ 1 kX6_book [.ref 0, vi g, vi x] h Q := by
  obtain ⟨hR, hI, hP, hk8, hk9, hk10⟩ := id hK
  have hW := hKW.1
  obtain ⟨⟨hn, hw, hh, hs⟩, hG, hN, hE⟩ := id hR
  have hnn := wf_n hW
  unfold okB at h1 h0
  refine cj_of (lo := [some (.ref 0), some (vi g), some (vi x), none]) mok_X6_book (fun _ => rfl) (fun _ => Nat.le_of_ble_eq_true rfl) ?_
  refine xj_aload_n (pc2 := 1) dX6_book_0 rfl rfl rfl ?_
  refine xj_getRn (pc2 := 4) (c2 := 2) fok_X6_19 dX6_book_1 rfl rfl rfl rfl rfl ?_
  refine xj_iload_n (pc2 := 5) dX6_book_4 rfl rfl rfl ?_
  refine xj_V1I (pc2 := 8) (d2 := 0) mok_X5_hasGlove ml_X6_91 ima_yX5_hasGlove sel_yX5_hasGlove rfl rfl dX6_book_5 rfl rfl (by decide) (by decide) (Nat.le_of_ble_eq_true rfl) (fun _ => rfl) ?_
  refine c_X5_hasGlove (Or.inl rfl) hR hW (by omega) ?_ ?_
  · -- X5_hasGlove = 1
    intro c_5
    refine xj_if_ne (pc2 := 11) (tgt := 14) dX6_book_8 rfl rfl (by omega) (fun c_8 => ?_) (fun c_8 => absurd c_8 (by decide))
    refine xj_iload_n (pc2 := 15) dX6_book_14 rfl rfl rfl ?_
    refine xj_iconst (pc2 := 16) dX6_book_15 rfl ?_
    refine xj_bipush (pc2 := 18) dX6_book_16 rfl (by decide) ?_
    refine xj_S3I (pc2 := 21) (d2 := 0) mok_X6_within ml_X6_57 sta_yX6_within dX6_book_18 rfl rfl (by decide) (by decide) (Nat.le_of_ble_eq_true rfl) (fun _ => rfl) ?_
    refine c_X6_within (by omega) (by omega) (by omega) ?_ ?_
    · -- X6_within = 1
      intro c_18
      refine xj_if_ne (pc2 := 24) (tgt := 27) dX6_book_21 rfl rfl (by omega) (fun c_21 => ?_) (fun c_21 => absurd c_21 (by decide))
      refine xj_aload_n (pc2 := 28) dX6_book_27 rfl rfl rfl ?_
      refine xj_getRn (pc2 := 31) (c2 := 2) fok_X6_19 dX6_book_28 rfl rfl rfl rfl rfl ?_
      refine xj_getRn (pc2 := 34) (c2 := 34) fok_X6_102 dX6_book_31 rfl rfl rfl rfl rfl ?_
      refine xj_iload_n (pc2 := 35) dX6_book_34 rfl rfl rfl ?_
      refine xj_S2I (pc2 := 38) (d2 := 0) mok_X6_at ml_X6_98 sta_yX6_at dX6_book_35 rfl rfl (by decide) (by decide) (Nat.le_of_ble_eq_true rfl) (fun _ => rfl) ?_
      refine c_X6_at rfl (by omega) (by decide) (hG _ (by omega) (by omega)).2.1 ?_
      refine xj_istore3 (pc2 := 39) dX6_book_38 rfl rfl (by decide) rfl ?_
      refine xj_aload_n (pc2 := 40) dX6_book_39 rfl rfl rfl ?_
      refine xj_getRn (pc2 := 43) (c2 := 2) fok_X6_19 dX6_book_40 rfl rfl rfl rfl rfl ?_
      refine xj_getRn (pc2 := 46) (c2 := 34) fok_X6_102 dX6_book_43 rfl rfl rfl rfl rfl ?_
      refine xj_iload_n (pc2 := 47) dX6_book_46 rfl rfl rfl ?_
      refine xj_iload_n (pc2 := 48) dX6_book_47 rfl rfl rfl ?_
      refine xj_S3V (pc2 := 51) (d2 := 0) mok_X6_put ml_X6_176 sta_yX6_put dX6_book_48 rfl rfl (by decide) (by decide) (Nat.le_of_ble_eq_true rfl) (fun _ => rfl) ?_
      refine c_X6_put rfl (by omega) (by decide) ?_
      refine xj_iload_n (pc2 := 52) dX6_book_51 rfl rfl rfl ?_
      refine xj_iret dX6_book_52 rfl ?_
      have he : ∀ c k, c ≠ 2 → (∀ i, i < 10 → c ≠ ch 2 i) → hset h 34 g x c k = h c k := fun c k q1 q2 => hset_nc (q2 1 (by decide))
      exact h1 (by omega) _ (KC_shop hK (RC_mark hR) he) (FrC_shop he)
    · -- X6_within = 0
      intro c_18
      refine xj_if_ne (pc2 := 24) (tgt := 27) dX6_book_21 rfl rfl (by omega) (fun c_21 => absurd c_21 (by decide)) (fun c_21 => ?_)
      refine xj_bipush (pc2 := 26) dX6_book_24 rfl (by decide) ?_
      refine xj_iret dX6_book_26 rfl ?_
      exact q_eq (by unfold bookR; (repeat' split) <;> first | (exfalso; omega) | rfl | omega) (h0 (by omega) h hK FrC_rf)
  · -- X5_hasGlove = 0
    intro c_5
    refine xj_if_ne (pc2 := 11) (tgt := 14) dX6_book_8 rfl rfl (by omega) (fun c_8 => absurd c_8 (by decide)) (fun c_8 => ?_)
    refine xj_bipush (pc2 := 13) dX6_book_11 rfl (by decide) ?_
    refine xj_iret dX6_book_13 rfl ?_
    exact q_eq (by unfold bookR; (repeat' split) <;> first | (exfalso; omega) | rfl | omega) (h0 (by omega) h hK FrC_rf)
def okY (S : Sh) (w n x : Int) : Prop := (0 ≤ w ∧ w < S 6 1) ∧ (0 ≤ n ∧ n ≤ 9) ∧ (0 ≤ x ∧ x ≤ 2)
def wishR (S : Sh) (w : Int) : Int := if ¬ (0 ≤ w ∧ w < S 6 1) then -101 else -102
theorem c_X6_wish {S I : Sh} {len w n x : Int} {pg : Int → Int} {im tr td : Int} {h : Hp} {Q : Int → Hp → Prop} (hK : KC S I len pg im tr td h) (hKW : KW S I im tr td) (hg : -2147483648 ≤ w ∧ w ≤ 2147483647) (hn0 : -2147483648 ≤ n ∧ n ≤ 2147483647) (hx : -2147483648 ≤ x ∧ x ≤ 2147483647) (h1 : okY S w n x → ∀ h', KC (hset (hset S 4 w n) 5 w x) I len pg im tr td h' → FrC h h' → Q (S 5 w) h') (h0 : ¬ okY S w n x → ∀ h', KC S I len pg im tr td h' → FrC h h' → Q (wishR S w) h') : CJ 1 kX6_wish [.ref 0, vi w, vi n, vi x] h Q := by
  obtain ⟨hR, hI, hP, hk8, hk9, hk10⟩ := id hK
  have hW := hKW.1
  obtain ⟨⟨hn, hw, hh, hs⟩, hG, hN, hE⟩ := id hR
  have hnn := wf_n hW
  unfold okY at h1 h0
  refine cj_of (lo := [some (.ref 0), some (vi w), some (vi n), some (vi x), none]) mok_X6_wish (fun _ => rfl) (fun _ => Nat.le_of_ble_eq_true rfl) ?_
  refine xj_aload_n (pc2 := 1) dX6_wish_0 rfl rfl rfl ?_
  refine xj_getRn (pc2 := 4) (c2 := 2) fok_X6_19 dX6_wish_1 rfl rfl rfl rfl rfl ?_
  refine xj_iload_n (pc2 := 5) dX6_wish_4 rfl rfl rfl ?_
  refine xj_V1I (pc2 := 8) (d2 := 0) mok_X5_hasWearer ml_X6_132 ima_yX5_hasWearer sel_yX5_hasWearer rfl rfl dX6_wish_5 rfl rfl (by decide) (by decide) (Nat.le_of_ble_eq_true rfl) (fun _ => rfl) ?_
  refine c_X5_hasWearer (Or.inl rfl) hR hW (by omega) ?_ ?_
  · -- X5_hasWearer = 1
    intro c_5
    refine xj_if_ne (pc2 := 11) (tgt := 14) dX6_wish_8 rfl rfl (by omega) (fun c_8 => ?_) (fun c_8 => absurd c_8 (by decide))
    refine xj_iload_n (pc2 := 15) dX6_wish_14 rfl rfl rfl ?_
    refine xj_iconst (pc2 := 16) dX6_wish_15 rfl ?_
    refine xj_bipush (pc2 := 18) dX6_wish_16 rfl (by decide) ?_
    refine xj_S3I (pc2 := 21) (d2 := 0) mok_X6_within ml_X6_57 sta_yX6_within dX6_wish_18 rfl rfl (by decide) (by decide) (Nat.le_of_ble_eq_true rfl) (fun _ => rfl) ?_
    refine c_X6_within (by omega) (by omega) (by omega) ?_ ?_
    · -- X6_within = 1
      intro c_18
      refine xj_if_eq (pc2 := 24) (tgt := 33) dX6_wish_21 rfl rfl (by omega) (fun c_21 => absurd c_21 (by decide)) (fun c_21 => ?_)
      refine xj_iload_n (pc2 := 25) dX6_wish_24 rfl rfl rfl ?_
      refine xj_iconst (pc2 := 26) dX6_wish_25 rfl ?_
      refine xj_iconst (pc2 := 27) dX6_wish_26 rfl ?_
      refine xj_S3I (pc2 := 30) (d2 := 0) mok_X6_within ml_X6_57 sta_yX6_within dX6_wish_27 rfl rfl (by decide) (by decide) (Nat.le_of_ble_eq_true rfl) (fun _ => rfl) ?_
      refine c_X6_within (by omega) (by omega) (by omega) ?_ ?_
      · -- X6_within = 1
        intro c_27
        refine xj_if_ne (pc2 := 33) (tgt := 36) dX6_wish_30 rfl rfl (by omega) (fun c_30 => ?_) (fun c_30 => absurd c_30 (by decide))
        refine xj_aload_n (pc2 := 37) dX6_wish_36 rfl rfl rfl ?_
        refine xj_getRn (pc2 := 40) (c2 := 2) fok_X6_19 dX6_wish_37 rfl rfl rfl rfl rfl ?_
        refine xj_getRn (pc2 := 43) (c2 := 39) fok_X6_147 dX6_wish_40 rfl rfl rfl rfl rfl ?_
        refine xj_iload_n (pc2 := 44) dX6_wish_43 rfl rfl rfl ?_
        refine xj_S2I (pc2 := 47) (d2 := 0) mok_X6_at ml_X6_98 sta_yX6_at dX6_wish_44 rfl rfl (by decide) (by decide) (Nat.le_of_ble_eq_true rfl) (fun _ => rfl) ?_
        refine c_X6_at rfl (by omega) (by decide) (hN _ (by omega) (by omega)).2 ?_
        refine xj_istore4 (pc2 := 49) dX6_wish_47 rfl (by decide) rfl ?_
        refine xj_aload_n (pc2 := 50) dX6_wish_49 rfl rfl rfl ?_
        refine xj_getRn (pc2 := 53) (c2 := 2) fok_X6_19 dX6_wish_50 rfl rfl rfl rfl rfl ?_
        refine xj_getRn (pc2 := 56) (c2 := 38) fok_X6_135 dX6_wish_53 rfl rfl rfl rfl rfl ?_
        refine xj_iload_n (pc2 := 57) dX6_wish_56 rfl rfl rfl ?_
        refine xj_iload_n (pc2 := 58) dX6_wish_57 rfl rfl rfl ?_
        refine xj_S3V (pc2 := 61) (d2 := 0) mok_X6_put ml_X6_176 sta_yX6_put dX6_wish_58 rfl rfl (by decide) (by decide) (Nat.le_of_ble_eq_true rfl) (fun _ => rfl) ?_
        refine c_X6_put rfl (by omega) (by decide) ?_
        refine xj_aload_n (pc2 := 62) dX6_wish_61 rfl rfl rfl ?_
        refine xj_getRn (pc2 := 65) (c2 := 2) fok_X6_19 dX6_wish_62 rfl rfl rfl rfl rfl ?_
        refine xj_getRn (pc2 := 68) (c2 := 39) fok_X6_147 dX6_wish_65 rfl rfl rfl rfl rfl ?_
        refine xj_iload_n (pc2 := 69) dX6_wish_68 rfl rfl rfl ?_
        refine xj_iload_n (pc2 := 70) dX6_wish_69 rfl rfl rfl ?_
        refine xj_S3V (pc2 := 73) (d2 := 0) mok_X6_put ml_X6_176 sta_yX6_put dX6_wish_70 rfl rfl (by decide) (by decide) (Nat.le_of_ble_eq_true rfl) (fun _ => rfl) ?_
        refine c_X6_put rfl (by omega) (by decide) ?_
        refine xj_iload (pc2 := 75) dX6_wish_73 rfl rfl ?_
        refine xj_iret dX6_wish_75 rfl ?_
        have he : ∀ c k, c ≠ 2 → (∀ i, i < 10 → c ≠ ch 2 i) → hset (hset h 38 w n) 39 w x c k = h c k := fun c k q1 q2 => (hset_nc (q2 6 (by decide))).trans (hset_nc (q2 5 (by decide)))
        exact h1 (by omega) _ (KC_shop hK (RC_wish hR) he) (FrC_shop he)
      · -- X6_within = 0
        intro c_27
        refine xj_if_ne (pc2 := 33) (tgt := 36) dX6_wish_30 rfl rfl (by omega) (fun c_30 => absurd c_30 (by decide)) (fun c_30 => ?_)
        refine xj_bipush (pc2 := 35) dX6_wish_33 rfl (by decide) ?_
        refine xj_iret dX6_wish_35 rfl ?_
        exact q_eq (by unfold wishR; (repeat' split) <;> first | (exfalso; omega) | rfl | omega) (h0 (by omega) h hK FrC_rf)
    · -- X6_within = 0
      intro c_18
      refine xj_if_eq (pc2 := 24) (tgt := 33) dX6_wish_21 rfl rfl (by omega) (fun c_21 => ?_) (fun c_21 => absurd c_21 (by decide))
      refine xj_bipush (pc2 := 35) dX6_wish_33 rfl (by decide) ?_
      refine xj_iret dX6_wish_35 rfl ?_
      exact q_eq (by unfold wishR; (repeat' split) <;> first | (exfalso; omega) | rfl | omega) (h0 (by omega) h hK FrC_rf)
  · -- X5_hasWearer = 0
    intro c_5
    refine xj_if_ne (pc2 := 11) (tgt := 14) dX6_wish_8 rfl rfl (by omega) (fun c_8 => absurd c_8 (by decide)) (fun c_8 => ?_)
    refine xj_bipush (pc2 := 13) dX6_wish_11 rfl (by decide) ?_
    refine xj_iret dX6_wish_13 rfl ?_
    exact q_eq (by unfold wishR; (repeat' split) <;> first | (exfalso; omega) | rfl | omega) (h0 (by omega) h hK FrC_rf)
def okS (S : Sh) (g m t : Int) : Prop := (0 ≤ g ∧ g < S 6 0) ∧ (0 ≤ m ∧ m ≤ 9) ∧ (0 ≤ t ∧ t ≤ 9) ∧ S 6 3 < 8
def seeR (S : Sh) (g m t : Int) : Int := if ¬ (0 ≤ g ∧ g < S 6 0) then -101 else if ¬ ((0 ≤ m ∧ m ≤ 9) ∧ (0 ≤ t ∧ t ≤ 9)) then -102 else -104