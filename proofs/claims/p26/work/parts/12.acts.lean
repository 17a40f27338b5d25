/-! what is done to a Shop: gloves on and off, hours, copies, draws -/
theorem RC_hand {b : Nat} {S : Sh} {h : Hp} {g x : Int} (hR : RC b S h) : RC b (hset S 3 g x) (hset (hset h (ch b 3) g (hold x)) (ch b 4) g (side x)) := by
  obtain ⟨⟨a1, a2, a3, a4⟩, hG, hN, hE⟩ := hR
  have fb : ∀ k, hset (hset h (ch b 3) g (hold x)) (ch b 4) g (side x) b k = h b k := fun k => by rw [hset_nc (bne_ch b 4), hset_nc (bne_ch b 3)]
  have fi : ∀ (i : Nat) (k : Int), i ≠ 3 → i ≠ 4 → hset (hset h (ch b 3) g (hold x)) (ch b 4) g (side x) (ch b i) k = h (ch b i) k := fun i k h3 h4 => by rw [hset_nc (ch_in h4), hset_nc (ch_in h3)]
  have s6 : ∀ k, hset S 3 g x 6 k = S 6 k := fun k => hset_nc (by decide)
  refine ⟨⟨by rw [fb, s6, a1], by rw [fb, s6, a2], by rw [fb, s6, a3], by rw [fb, s6, a4]⟩, fun g' h0 h1 => ?_, fun w h0 h1 => ?_, fun i h0 h1 => ?_⟩
  · rw [s6] at h1
    obtain ⟨b1, b2, b3, b4, b5⟩ := hG g' h0 h1
    refine ⟨by rw [fi _ _ (by decide) (by decide), hset_nc (by decide), b1], by rw [fi _ _ (by decide) (by decide), hset_nc (by decide), b2], by rw [fi _ _ (by decide) (by decide), hset_nc (by decide), b3], ?_, ?_⟩
    · rw [hset_nc (ch_in (by decide))]
      by_cases e : g' = g
      · subst e; rw [hset_eq, hset_eq]
      · rw [hset_nk e, hset_nk e, b4]
    · by_cases e : g' = g
      · subst e; rw [hset_eq, hset_eq]
      · rw [hset_nk e, hset_nk e, hset_nk e, b5]
  · rw [s6] at h1
    obtain ⟨b1, b2⟩ := hN w h0 h1
    exact ⟨by rw [fi _ _ (by decide) (by decide), hset_nc (by decide), b1], by rw [fi _ _ (by decide) (by decide), hset_nc (by decide), b2]⟩
  · rw [s6] at h1
    obtain ⟨b1, b2, b3⟩ := hE i h0 h1
    exact ⟨by rw [fi _ _ (by decide) (by decide), hset_nc (by decide), b1], by rw [fi _ _ (by decide) (by decide), hset_nc (by decide), b2], by rw [fi _ _ (by decide) (by decide), hset_nc (by decide), b3]⟩
theorem WF_hand {S : Sh} {g x : Int} (hW : WF S) (hg : 0 ≤ g ∧ g < S 6 0) (hx : x = -1 ∨ (0 ≤ x ∧ x < 2 * S 6 1 ∧ ∀ g', 0 ≤ g' → g' < S 6 0 → S 3 g' ≠ x)) : WF (hset S 3 g x) := by
  have s6 : ∀ k, hset S 3 g x 6 k = S 6 k := fun k => hset_nc (by decide)
  have st : ∀ t k, t ≠ 3 → hset S 3 g x t k = S t k := fun t k h => hset_nc h
  refine ⟨by rw [s6, s6]; exact hW.1, by rw [s6]; exact hW.2.1, by rw [s6]; exact hW.2.2.1, fun k h0 h1 => ?_, fun w h0 h1 => ?_, fun i h0 h1 => ?_, fun k k' h0 h1 h2 h3 he hne => ?_⟩
  · rw [s6] at h1
    have := wf_g hW ⟨h0, h1⟩
    rw [st 0 k (by decide), st 1 k (by decide), st 2 k (by decide), s6]
    refine ⟨this.1, this.2.1, this.2.2.1, ?_⟩
    by_cases e : k = g
    · subst e; rw [hset_eq]; rcases hx with hx | hx <;> have := wf_n hW <;> omega
    · rw [hset_nk e]; exact this.2.2.2
  · rw [s6] at h1
    rw [st 4 w (by decide), st 5 w (by decide)]
    exact wf_w hW ⟨h0, h1⟩
  · rw [s6] at h1
    rw [st 7 i (by decide), st 8 i (by decide), st 9 i (by decide), s6]
    exact wf_i hW ⟨h0, h1⟩
  · rw [s6] at h1 h3
    by_cases e : k = g
    · subst e
      by_cases e2 : k' = k
      · exact e2.symm
      · rw [hset_eq, hset_nk e2] at he
        rw [hset_eq] at hne
        rcases hx with hx | hx
        · exact absurd hx hne
        · exact absurd he.symm (hx.2.2 k' h2 h3)
    · by_cases e2 : k' = g
      · subst e2
        rw [hset_eq, hset_nk e] at he
        rw [hset_nk e] at hne
        rcases hx with hx | hx
        · exact absurd (he.trans hx) hne
        · exact absurd he (hx.2.2 k h0 h1)
      · rw [hset_nk e, hset_nk e2] at he
        rw [hset_nk e] at hne
        exact hW.2.2.2.2.2.2 k k' h0 h1 h2 h3 he hne
def passS (S : Sh) : Sh := fun t k => if t = 6 ∧ k = 2 then S 6 2 + 1 else if t = 2 ∧ ¬ hold (S 3 k) = -1 then agez (S 2 k + 1) else S t k
theorem passS_t {S : Sh} {t : Nat} {k : Int} (h1 : t ≠ 2) (h2 : t ≠ 6 ∨ k ≠ 2) : passS S t k = S t k := by
  unfold passS
  rw [if_neg (by omega), if_neg (by omega)]
theorem passS0 {S : Sh} {k : Int} : passS S 0 k = S 0 k := passS_t (by decide) (Or.inl (by decide))
theorem passS1 {S : Sh} {k : Int} : passS S 1 k = S 1 k := passS_t (by decide) (Or.inl (by decide))
theorem passS3 {S : Sh} {k : Int} : passS S 3 k = S 3 k := passS_t (by decide) (Or.inl (by decide))
theorem passS4 {S : Sh} {k : Int} : passS S 4 k = S 4 k := passS_t (by decide) (Or.inl (by decide))
theorem passS5 {S : Sh} {k : Int} : passS S 5 k = S 5 k := passS_t (by decide) (Or.inl (by decide))
theorem passS7 {S : Sh} {k : Int} : passS S 7 k = S 7 k := passS_t (by decide) (Or.inl (by decide))
theorem passS8 {S : Sh} {k : Int} : passS S 8 k = S 8 k := passS_t (by decide) (Or.inl (by decide))
theorem passS9 {S : Sh} {k : Int} : passS S 9 k = S 9 k := passS_t (by decide) (Or.inl (by decide))
theorem passS_a {S : Sh} {k : Int} : passS S 2 k = if ¬ hold (S 3 k) = -1 then agez (S 2 k + 1) else S 2 k := by
  unfold passS
  rw [if_neg (by omega)]
  by_cases e : hold (S 3 k) = -1 <;> simp [e]
theorem passS_h {S : Sh} : passS S 6 2 = S 6 2 + 1 := by
  unfold passS
  rw [if_pos ⟨rfl, rfl⟩]
theorem WF_pass {S : Sh} (hW : WF S) : WF (passS S) := by
  have s60 : passS S 6 0 = S 6 0 := passS_t (by decide) (by decide)
  have s61 : passS S 6 1 = S 6 1 := passS_t (by decide) (by decide)
  have s63 : passS S 6 3 = S 6 3 := passS_t (by decide) (by decide)
  refine ⟨by rw [s60, s61]; exact hW.1, by rw [passS_h]; have := wf_n hW; omega, by rw [s63]; exact hW.2.2.1, fun k h0 h1 => ?_, fun w h0 h1 => ?_, fun i h0 h1 => ?_, fun k k' h0 h1 h2 h3 he hne => ?_⟩
  · rw [s60] at h1
    have := wf_g hW ⟨h0, h1⟩
    rw [passS0, passS1, passS3, s61, passS_a]
    refine ⟨this.1, this.2.1, ?_, this.2.2.2⟩
    split
    · exact agez_rg (by omega)
    · exact this.2.2.1
  · rw [s61] at h1
    rw [passS4, passS5]
    exact wf_w hW ⟨h0, h1⟩
  · rw [s63] at h1
    rw [passS7, passS8, passS9, s60]
    exact wf_i hW ⟨h0, h1⟩
  · rw [s60] at h1 h3
    rw [passS3, passS3] at he
    rw [passS3] at hne
    exact hW.2.2.2.2.2.2 k k' h0 h1 h2 h3 he hne
theorem c_X5_putOn {b : Nat} {g w s : Int} {h : Hp} {Q : Int → Hp → Prop} (hb : Shb b) (hg : 0 ≤ g ∧ g < 6) (hq : Q 0 (hset (hset h (ch b 3) g w) (ch b 4) g s)) : CJ 1 kX5_putOn [.ref b, vi g, vi w, vi s] h Q := by
  refine cj_of (lo := [some (.ref b), some (vi g), some (vi w), some (vi s)]) mok_X5_putOn (fun _ => rfl) (fun _ => Nat.le_of_ble_eq_true rfl) ?_
  refine xj_aload_n (pc2 := 1) dX5_putOn_0 rfl rfl rfl ?_
  refine xj_getR (pc2 := 4) fok_X5_21 dX5_putOn_1 rfl rfl (ks hb) rfl ?_
  refine xj_iload_n (pc2 := 5) dX5_putOn_4 rfl rfl rfl ?_
  refine xj_iload_n (pc2 := 6) dX5_putOn_5 rfl rfl rfl ?_
  refine xj_N3V (pc2 := 9) (d2 := 0) mok_X6_put mn_X5_68 sta_yX6_put dX5_putOn_6 rfl rfl (by decide) (by decide) (Nat.le_of_ble_eq_true rfl) (fun _ => rfl) ?_
  refine c_X6_put (ks3 hb) (by omega) (by decide) ?_
  refine xj_aload_n (pc2 := 10) dX5_putOn_9 rfl rfl rfl ?_
  refine xj_getR (pc2 := 13) fok_X5_24 dX5_putOn_10 rfl rfl (ks hb) rfl ?_
  refine xj_iload_n (pc2 := 14) dX5_putOn_13 rfl rfl rfl ?_
  refine xj_iload_n (pc2 := 15) dX5_putOn_14 rfl rfl rfl ?_
  refine xj_N3V (pc2 := 18) (d2 := 0) mok_X6_put mn_X5_68 sta_yX6_put dX5_putOn_15 rfl rfl (by decide) (by decide) (Nat.le_of_ble_eq_true rfl) (fun _ => rfl) ?_
  refine c_X6_put (ks4 hb) (by omega) (by decide) ?_
  refine xj_vret dX5_putOn_18 rfl ?_
  exact hq
theorem c_X5_takeOff {b : Nat} {g : Int} {h : Hp} {Q : Int → Hp → Prop} (hb : Shb b) (hg : 0 ≤ g ∧ g < 6) (hq : Q 0 (hset (hset h (ch b 3) g (-1)) (ch b 4) g (-1))) : CJ 1 kX5_takeOff [.ref b, vi g] h Q := by
  refine cj_of (lo := [some (.ref b), some (vi g)]) mok_X5_takeOff (fun _ => rfl) (fun _ => Nat.le_of_ble_eq_true rfl) ?_
  refine xj_aload_n (pc2 := 1) dX5_takeOff_0 rfl rfl rfl ?_
  refine xj_getR (pc2 := 4) fok_X5_21 dX5_takeOff_1 rfl rfl (ks hb) rfl ?_
  refine xj_iload_n (pc2 := 5) dX5_takeOff_4 rfl rfl rfl ?_
  refine xj_iconst (pc2 := 6) dX5_takeOff_5 rfl ?_
  refine xj_N3V (pc2 := 9) (d2 := 0) mok_X6_put mn_X5_68 sta_yX6_put dX5_takeOff_6 rfl rfl (by decide) (by decide) (Nat.le_of_ble_eq_true rfl) (fun _ => rfl) ?_
  refine c_X6_put (ks3 hb) (by omega) (by decide) ?_
  refine xj_aload_n (pc2 := 10) dX5_takeOff_9 rfl rfl rfl ?_
  refine xj_getR (pc2 := 13) fok_X5_24 dX5_takeOff_10 rfl rfl (ks hb) rfl ?_
  refine xj_iload_n (pc2 := 14) dX5_takeOff_13 rfl rfl rfl ?_
  refine xj_iconst (pc2 := 15) dX5_takeOff_14 rfl ?_
  refine xj_N3V (pc2 := 18) (d2 := 0) mok_X6_put mn_X5_68 sta_yX6_put dX5_takeOff_15 rfl rfl (by decide) (by decide) (Nat.le_of_ble_eq_true rfl) (fun _ => rfl) ?_
  refine c_X6_put (ks4 hb) (by omega) (by decide) ?_
  refine xj_vret dX5_takeOff_18 rfl ?_
  exact hq
theorem c_X5_passHour {b : Nat} {S : Sh} {h : Hp} {Q : Int → Hp → Prop} (hb : Shb b) (hR : RC b S h) (hW : WF S) (hq : ∀ h', RC b (passS S) h' → (∀ c k, c ≠ b → c ≠ ch b 2 → h' c k = h c k) → Q 0 h') : CJ 1 kX5_passHour [.ref b] h Q := by
  obtain ⟨⟨hn, hw, hh, hs⟩, hG, hN, hE⟩ := id hR
  have hnn := wf_n hW
  have hng := nG_eq hW
  refine cj_of (lo := [some (.ref b), none]) mok_X5_passHour (fun _ => rfl) (fun _ => Nat.le_of_ble_eq_true rfl) ?_
  refine xj_aload_n (pc2 := 1) dX5_passHour_0 rfl rfl rfl ?_
  refine xj_dup (pc2 := 2) dX5_passHour_1 rfl rfl ?_
  refine xj_getI (pc2 := 5) (kz := 13) fok_X5_52 dX5_passHour_2 rfl rfl (ks hb) (by decide) rfl (by first | assumption | rfl) ?_
  refine xj_iconst (pc2 := 6) dX5_passHour_5 rfl ?_
  refine xj_iadd (pc2 := 7) dX5_passHour_6 rfl ?_
  refine xj_putI (pc2 := 10) (kz := 13) fok_X5_52 dX5_passHour_7 rfl rfl (ks hb) rfl rfl ?_
  refine xj_iconst (pc2 := 11) dX5_passHour_10 rfl ?_
  refine xj_istore1 (pc2 := 12) dX5_passHour_11 rfl rfl (by decide) rfl ?_
  have nb : ∀ k, k ≠ 13 → hset h b 13 (S 6 2 + 1) b k = h b k := fun k hk => hset_nk hk
  have nc : ∀ i k, hset h b 13 (S 6 2 + 1) (ch b i) k = h (ch b i) k := fun i k => hset_nc (ch_bne b i)
  refine down (P := fun j => ∀ h' : Hp, (∀ c k, c ≠ ch b 2 → h' c k = hset h b 13 (S 6 2 + 1) c k) → (∀ k, 0 ≤ k → k < (j : Int) → h' (ch b 2) k = passS S 2 k) → (∀ k, (j : Int) ≤ k → k < S 6 0 → h' (ch b 2) k = S 2 k) → XJ none 1 kX5_passHour h' 12 [some (.ref b), some (vi j)] [] Q) (n := nG S) ?_ ?_ _ (fun c k _ => rfl) (fun k h0 h1 => by omega) (fun k h0 h1 => by rw [nc]; exact (hG k (by omega) h1).2.2.1)
  · intro h' hf hlo hhi
    have hn' : h' b 11 = S 6 0 := by rw [hf _ _ (bne_ch b 2), nb _ (by decide), hn]
    have fin : RC b (passS S) h' := by
      have fi : ∀ (i : Nat) (k : Int), i ≠ 2 → h' (ch b i) k = h (ch b i) k := fun i k hi => by rw [hf _ _ (ch_in hi), nc]
      have s60 : passS S 6 0 = S 6 0 := passS_t (by decide) (by decide)
      have s61 : passS S 6 1 = S 6 1 := passS_t (by decide) (by decide)
      have s63 : passS S 6 3 = S 6 3 := passS_t (by decide) (by decide)
      refine ⟨⟨by rw [hn', s60], by rw [hf _ _ (bne_ch b 2), nb _ (by decide), hw, s61], by rw [hf _ _ (bne_ch b 2), hset_eq, passS_h], by rw [hf _ _ (bne_ch b 2), nb _ (by decide), hs, s63]⟩, fun g h0 h1 => ?_, fun w h0 h1 => ?_, fun i h0 h1 => ?_⟩
      · rw [s60] at h1
        obtain ⟨b1, b2, b3, b4, b5⟩ := hG g h0 h1
        exact ⟨by rw [fi _ _ (by decide), b1, passS0], by rw [fi _ _ (by decide), b2, passS1], hlo g h0 (by omega), by rw [fi _ _ (by decide), b4, passS3], by rw [fi _ _ (by decide), b5, passS3]⟩
      · rw [s61] at h1
        obtain ⟨b1, b2⟩ := hN w h0 h1
        exact ⟨by rw [fi _ _ (by decide), b1, passS4], by rw [fi _ _ (by decide), b2, passS5]⟩
      · rw [s63] at h1
        obtain ⟨b1, b2, b3⟩ := hE i h0 h1
        exact ⟨by rw [fi _ _ (by decide), b1, passS7], by rw [fi _ _ (by decide), b2, passS8], by rw [fi _ _ (by decide), b3, passS9]⟩
    refine xj_iload_n (pc2 := 13) dX5_passHour_12 rfl rfl rfl ?_
    refine xj_aload_n (pc2 := 14) dX5_passHour_13 rfl rfl rfl ?_
    refine xj_getI (pc2 := 17) (kz := 11) fok_X5_45 dX5_passHour_14 rfl rfl (ks hb) (by decide) rfl (by first | assumption | rfl) ?_
    refine xj_cmp_ge (pc2 := 20) (tgt := 59) dX5_passHour_17 rfl rfl (by omega) (by omega) (fun c_17 => ?_) (fun c_17 => by exfalso; omega)
    refine xj_vret dX5_passHour_59 rfl ?_
    exact hq _ fin (fun c k h1 h2 => by rw [hf _ _ h2, hset_nc h1])
  · intro j hj ih h' hf hlo hhi
    have hn' : h' b 11 = S 6 0 := by rw [hf _ _ (bne_ch b 2), nb _ (by decide), hn]
    have hhb := hold_b hW (g := (j : Int)) (by omega)
    have hwg := wf_g hW (g := (j : Int)) (by omega)
    have hho : h' (ch b 3) j = hold (S 3 j) := by rw [hf _ _ (ch_in (by decide)), nc]; exact (hG j (by omega) (by omega)).2.2.2.1
    have hha : h' (ch b 2) j = S 2 j := hhi j (by omega) (by omega)
    refine xj_iload_n (pc2 := 13) dX5_passHour_12 rfl rfl rfl ?_
    refine xj_aload_n (pc2 := 14) dX5_passHour_13 rfl rfl rfl ?_
    refine xj_getI (pc2 := 17) (kz := 11) fok_X5_45 dX5_passHour_14 rfl rfl (ks hb) (by decide) rfl (by first | assumption | rfl) ?_
    refine xj_cmp_ge (pc2 := 20) (tgt := 59) dX5_passHour_17 rfl rfl (by omega) (by omega) (fun c_17 => by exfalso; omega) (fun c_17 => ?_)
    refine xj_aload_n (pc2 := 21) dX5_passHour_20 rfl rfl rfl ?_
    refine xj_getR (pc2 := 24) fok_X5_21 dX5_passHour_21 rfl rfl (ks hb) rfl ?_
    refine xj_iload_n (pc2 := 25) dX5_passHour_24 rfl rfl rfl ?_
    refine xj_N2I (pc2 := 28) (d2 := 0) mok_X6_at mn_X5_72 sta_yX6_at dX5_passHour_25 rfl rfl (by decide) (by decide) (Nat.le_of_ble_eq_true rfl) (fun _ => rfl) ?_
    refine c_X6_at (ks3 hb) (by omega) (by decide) hho ?_
    refine xj_iconst (pc2 := 29) dX5_passHour_28 rfl ?_
    refine xj_cmp_eq (pc2 := 32) (tgt := 53) dX5_passHour_29 rfl rfl (by omega) (by omega) (fun c_29 => ?_) (fun c_29 => ?_)
    · -- 53
      refine ?_
      refine xj_iinc1 (pc2 := 56) dX5_passHour_53 rfl (by decide) rfl ?_
      refine xj_goto (tgt := 12) dX5_passHour_56 rfl ?_
      first
      | exact ih _ hf (fun k h0 h1 => by
          by_cases e : k = (j : Int)
          · subst e; rw [hha, passS_a, if_neg (fun q => q c_29)]
          · exact hlo k h0 (by omega)) (fun k h0 h1 => hhi k (by omega) h1)
      | exact ih _ (fun c k hc => (hset_nc hc).trans (hf c k hc)) (fun k h0 h1 => by
          by_cases e : k = (j : Int)
          · subst e; rw [hset_eq, passS_a, if_pos c_29]
          · rw [hset_nk e]; exact hlo k h0 (by omega)) (fun k h0 h1 => by rw [hset_nk (by omega)]; exact hhi k (by omega) h1)
    · -- 32
      refine xj_aload_n (pc2 := 33) dX5_passHour_32 rfl rfl rfl ?_
      refine xj_getR (pc2 := 36) fok_X5_18 dX5_passHour_33 rfl rfl (ks hb) rfl ?_
      refine xj_iload_n (pc2 := 37) dX5_passHour_36 rfl rfl rfl ?_
      refine xj_aload_n (pc2 := 38) dX5_passHour_37 rfl rfl rfl ?_
      refine xj_getR (pc2 := 41) fok_X5_18 dX5_passHour_38 rfl rfl (ks hb) rfl ?_
      refine xj_iload_n (pc2 := 42) dX5_passHour_41 rfl rfl rfl ?_
      refine xj_N2I (pc2 := 45) (d2 := 0) mok_X6_at mn_X5_72 sta_yX6_at dX5_passHour_42 rfl rfl (by decide) (by decide) (Nat.le_of_ble_eq_true rfl) (fun _ => rfl) ?_
      refine c_X6_at (ks2 hb) (by omega) (by decide) hha ?_
      refine xj_iconst (pc2 := 46) dX5_passHour_45 rfl ?_
      refine xj_iadd (pc2 := 47) dX5_passHour_46 rfl ?_
      refine xj_N1I (pc2 := 50) (d2 := 0) mok_X6_ageOf mn_X5_76 sta_yX6_ageOf dX5_passHour_47 rfl rfl (by decide) (by decide) (Nat.le_of_ble_eq_true rfl) (fun _ => rfl) ?_
      refine c_X6_ageOf (by omega) ?_
      refine xj_N3V (pc2 := 53) (d2 := 0) mok_X6_put mn_X5_68 sta_yX6_put dX5_passHour_50 rfl rfl (by decide) (by decide) (Nat.le_of_ble_eq_true rfl) (fun _ => rfl) ?_
      refine c_X6_put (ks2 hb) (by omega) (by decide) ?_
      refine xj_iinc1 (pc2 := 56) dX5_passHour_53 rfl (by decide) rfl ?_
      refine xj_goto (tgt := 12) dX5_passHour_56 rfl ?_
      first
      | exact ih _ hf (fun k h0 h1 => by
          by_cases e : k = (j : Int)
          · subst e; rw [hha, passS_a, if_neg (fun q => q c_29)]
          · exact hlo k h0 (by omega)) (fun k h0 h1 => hhi k (by omega) h1)
      | exact ih _ (fun c k hc => (hset_nc hc).trans (hf c k hc)) (fun k h0 h1 => by
          by_cases e : k = (j : Int)
          · subst e; rw [hset_eq, passS_a, if_pos c_29]
          · rw [hset_nk e]; exact hlo k h0 (by omega)) (fun k h0 h1 => by rw [hset_nk (by omega)]; exact hhi k (by omega) h1)
def sdz (s : Int) : Int := (1103515245 * s + 12345) % 2147483648
def drw (s d : Int) : Int := sdz s / 65536 % d
theorem sdz_rg (s : Int) : 0 ≤ sdz s ∧ sdz s < 2147483648 := by unfold sdz; omega
theorem drw_rg (s : Int) {d : Int} (hd : 0 < d) : 0 ≤ drw s d ∧ drw s d < d := ⟨Int.emod_nonneg _ (by omega), Int.emod_lt_of_pos _ hd⟩
theorem c_X1_next {s d : Int} {h : Hp} {Q : Int → Hp → Prop} (hs : h 8 0 = s) (hs0 : 0 ≤ s ∧ s ≤ 2147483647) (hd : 0 < d ∧ d ≤ 100) (hq : Q (drw s d) (hset h 8 0 (sdz s))) : CJ 0 kX1_next [.ref 8, vi d] h Q := by
  have hz := sdz_rg s
  have e : (1103515245 * s + 12345) % 2147483648 = sdz s := rfl
  refine cj_of (lo := [some (.ref 8), some (vi d)]) mok_X1_next (fun _ => rfl) (fun _ => Nat.le_of_ble_eq_true rfl) ?_
  refine xj_aload_n (pc2 := 1) dX1_next_0 rfl rfl rfl ?_
  refine xj_ldc2 (pc2 := 4) (n := 1103515245) dX1_next_1 rfl k_X1_7 rfl ?_
  refine xj_aload_n (pc2 := 5) dX1_next_4 rfl rfl rfl ?_
  refine xj_getI (pc2 := 8) (kz := 0) fok_X1_9 dX1_next_5 rfl rfl rfl (by decide) rfl (by first | assumption | rfl) ?_
  refine xj_i2l (pc2 := 9) dX1_next_8 rfl (by omega) ?_
  refine xj_lmul (pc2 := 10) dX1_next_9 rfl ?_
  refine xj_ldc2 (pc2 := 13) (n := 12345) dX1_next_10 rfl k_X1_15 rfl ?_
  refine xj_ladd (pc2 := 14) dX1_next_13 rfl ?_
  refine xj_ldc2 (pc2 := 17) (n := 2147483648) dX1_next_14 rfl k_X1_17 rfl ?_
  refine xj_lrem (pc2 := 18) dX1_next_17 rfl (by omega) (by omega) ?_
  rw [e]
  refine xj_l2i (pc2 := 19) dX1_next_18 rfl ?_
  refine xj_putI (pc2 := 22) (kz := 0) fok_X1_9 dX1_next_19 rfl rfl rfl rfl rfl ?_
  refine xj_iload_n (pc2 := 23) dX1_next_22 rfl rfl rfl ?_
  refine xj_if_le (pc2 := 26) (tgt := 38) dX1_next_23 rfl rfl (by omega) (fun c_23 => by exfalso; omega) (fun c_23 => ?_)
  refine xj_aload_n (pc2 := 27) dX1_next_26 rfl rfl rfl ?_
  refine xj_getI (pc2 := 30) (kz := 0) fok_X1_9 dX1_next_27 rfl rfl rfl (by decide) rfl (hset_eq _ _ _ _) ?_
  refine xj_ldc (pc2 := 32) (n := 65536) dX1_next_30 rfl k_X1_19 rfl ?_
  refine xj_idiv (pc2 := 33) dX1_next_32 rfl (by omega) (by omega) ?_
  refine xj_iload_n (pc2 := 34) dX1_next_33 rfl rfl rfl ?_
  refine xj_irem (pc2 := 35) dX1_next_34 rfl (by omega) (by omega) ?_
  refine xj_goto (tgt := 39) dX1_next_35 rfl ?_
  refine xj_iret dX1_next_39 rfl ?_
  exact hq
theorem chainc (b c : Nat) (hb : Shb b) (hc : Shb c) (hn : b ≠ c) : (c ≠ b) ∧ (∀ i, c ≠ ch b i) ∧ (∀ i j, i < 11 → j < 11 → ch c i ≠ ch b j) ∧ ∀ i, i < 11 → ch c i ≠ b := by
  refine ⟨hn.symm, fun i => ?_, fun i j hi hj => ?_, fun i hi => ?_⟩
  · unfold ch; rcases hb with rfl | rfl | rfl <;> rcases hc with rfl | rfl | rfl <;> omega
  · unfold ch; rcases hb with rfl | rfl | rfl <;> rcases hc with rfl | rfl | rfl <;> omega
  · unfold ch; rcases hb with rfl | rfl | rfl <;> rcases hc with rfl | rfl | rfl <;> omega
