/-! the model: what changes it -/
def KM (S I : Sh) (len : Int) (pg : Int → Int) (im tr td : Int) (h : Hp) : Prop := RM S h ∧ (im = 1 → (h 9 27 = I 6 2 ∧ h 9 28 = I 6 3) ∧ (∀ g, 0 ≤ g → g < I 6 0 → h 174 g = I 1 g ∧ h 175 g = I 2 g ∧ h 176 g = I 3 g) ∧ (∀ w, 0 ≤ w → w < I 6 1 → h 177 w = I 4 w ∧ h 178 w = I 5 w) ∧ (∀ i, 0 ≤ i → i < I 6 3 → h 179 i = I 7 i ∧ h 180 i = I 8 i ∧ h 181 i = I 9 i) ∧ (h 9 25 = 1 ∧ h 9 26 = tr) ∧ I 6 0 = S 6 0 ∧ I 6 1 = S 6 1 ∧ ∀ g, 0 ≤ g → g < S 6 0 → I 0 g = S 0 g) ∧ (h 9 15 = len ∧ (0 ≤ len ∧ len ≤ 26) ∧ ∀ i, 0 ≤ i → i < len → h 161 i = pg i ∧ 32 ≤ pg i ∧ pg i ≤ 126) ∧ h 9 0 = tr ∧ h 9 10 = td ∧ ((0 ≤ h 9 25 ∧ h 9 25 ≤ 1) ∧ (0 ≤ h 9 26 ∧ h 9 26 ≤ tr) ∧ (im = 0 → h 9 25 = 0 ∨ h 9 26 < tr))
def FrM (h h' : Hp) : Prop := ∀ c k, c < 145 → c ≠ 9 → h' c k = h c k
theorem FrM_rf {h : Hp} : FrM h h := fun _ _ _ _ => rfl
theorem FrM_tr {h h2 h3 : Hp} (a : FrM h h2) (b : FrM h2 h3) : FrM h h3 := fun c k h1 h2 => (b c k h1 h2).trans (a c k h1 h2)
/-- cells and fields of the model that a state's meaning reads -/
def LM (c : Nat) (k : Int) : Prop := (c = 9 ∧ (k = 0 ∨ k = 1 ∨ k = 2 ∨ k = 9 ∨ k = 10 ∨ k = 11 ∨ k = 15 ∨ k = 25 ∨ k = 26 ∨ k = 27 ∨ k = 28)) ∨ (148 ≤ c ∧ c ≤ 153) ∨ (157 ≤ c ∧ c ≤ 159) ∨ c = 161 ∨ (174 ≤ c ∧ c ≤ 181)
theorem KM_eq {S I : Sh} {len : Int} {pg : Int → Int} {im tr td : Int} {h h' : Hp} (hK : KM S I len pg im tr td h) (e : ∀ c k, LM c k → h' c k = h c k) : KM S I len pg im tr td h' := by
  obtain ⟨k1, k2, ⟨k3, k4, k5⟩, k6, k7, k8⟩ := hK
  have e9 : ∀ k, (k = 0 ∨ k = 1 ∨ k = 2 ∨ k = 9 ∨ k = 10 ∨ k = 11 ∨ k = 15 ∨ k = 25 ∨ k = 26 ∨ k = 27 ∨ k = 28) → h' 9 k = h 9 k := fun k q => e 9 k (Or.inl ⟨rfl, q⟩)
  refine ⟨RM_eq k1 (e9 _ (by omega)) (e9 _ (by omega)) (e9 _ (by omega)) (e9 _ (by omega)) (fun c k q => e c k (by unfold LM; omega)), fun q => ?_, ⟨?_, k4, fun i a b => ?_⟩, ?_, ?_, ?_⟩
  · obtain ⟨⟨a1, a2⟩, a3, a4, a5, a6, a7⟩ := k2 q
    refine ⟨⟨by rw [e9 _ (by omega), a1], by rw [e9 _ (by omega), a2]⟩, fun g h0 h1 => ?_, fun w h0 h1 => ?_, fun i h0 h1 => ?_, ⟨by rw [e9 _ (by omega)]; exact a6.1, by rw [e9 _ (by omega)]; exact a6.2⟩, a7⟩
    · rw [e 174 _ (by unfold LM; omega), e 175 _ (by unfold LM; omega), e 176 _ (by unfold LM; omega)]; exact a3 g h0 h1
    · rw [e 177 _ (by unfold LM; omega), e 178 _ (by unfold LM; omega)]; exact a4 w h0 h1
    · rw [e 179 _ (by unfold LM; omega), e 180 _ (by unfold LM; omega), e 181 _ (by unfold LM; omega)]; exact a5 i h0 h1
  · rw [e9 _ (by omega), k3]
  · rw [e 161 _ (by unfold LM; omega)]; exact k5 i a b
  · rw [e9 _ (by omega), k6]
  · rw [e9 _ (by omega), k7]
  · rw [e9 25 (by omega), e9 26 (by omega)]; exact k8
/-- a change of the shop's own rows alone -/
theorem KM_shop {S S' I : Sh} {len : Int} {pg : Int → Int} {im tr td : Int} {h h' : Hp} (hK : KM S I len pg im tr td h) (hR : RM S' h') (e1 : S' 6 0 = S 6 0) (e2 : S' 6 1 = S 6 1) (e3 : ∀ g, S' 0 g = S 0 g) (e : ∀ c k, LM c k → ((c = 9 ∧ k ≠ 9 ∧ k ≠ 11) ∨ 160 ≤ c) → h' c k = h c k) : KM S' I len pg im tr td h' := by
  obtain ⟨k1, k2, ⟨k3, k4, k5⟩, k6, k7, k8⟩ := hK
  have e9 : ∀ k, (k = 0 ∨ k = 10 ∨ k = 15 ∨ k = 25 ∨ k = 26 ∨ k = 27 ∨ k = 28) → h' 9 k = h 9 k := fun k q => e 9 k (by unfold LM; omega) (by omega)
  refine ⟨hR, fun q => ?_, ⟨?_, k4, fun i a b => ?_⟩, ?_, ?_, ?_⟩
  · obtain ⟨⟨a1, a2⟩, a3, a4, a5, a6, a7, a8, a9⟩ := k2 q
    refine ⟨⟨by rw [e9 _ (by omega), a1], by rw [e9 _ (by omega), a2]⟩, fun g h0 h1 => ?_, fun w h0 h1 => ?_, fun i h0 h1 => ?_, ⟨by rw [e9 _ (by omega)]; exact a6.1, by rw [e9 _ (by omega)]; exact a6.2⟩, by rw [e1, a7], by rw [e2, a8], fun g h0 h1 => by rw [e3]; exact a9 g h0 (by omega)⟩
    · rw [e 174 _ (by unfold LM; omega) (by omega), e 175 _ (by unfold LM; omega) (by omega), e 176 _ (by unfold LM; omega) (by omega)]; exact a3 g h0 h1
    · rw [e 177 _ (by unfold LM; omega) (by omega), e 178 _ (by unfold LM; omega) (by omega)]; exact a4 w h0 h1
    · rw [e 179 _ (by unfold LM; omega) (by omega), e 180 _ (by unfold LM; omega) (by omega), e 181 _ (by unfold LM; omega) (by omega)]; exact a5 i h0 h1
  · rw [e9 _ (by omega), k3]
  · rw [e 161 _ (by unfold LM; omega) (by omega)]; exact k5 i a b
  · rw [e9 _ (by omega), k6]
  · rw [e9 _ (by omega), k7]
  · rw [e9 25 (by omega), e9 26 (by omega)]; exact k8
theorem RM_hand {S : Sh} {h : Hp} {g x : Int} (hM : RM S h) : RM (hset S 3 g x) (hset h 151 g x) := by
  obtain ⟨⟨a1, a2, a3, a4⟩, mG, mN, mE⟩ := hM
  refine ⟨⟨a1, a2, a3, a4⟩, fun g' h0 h1 => ?_, mN, mE⟩
  obtain ⟨b1, b2, b3, b4⟩ := mG g' h0 h1
  refine ⟨b1, b2, b3, ?_⟩
  by_cases e : g' = g
  · subst e; rw [hset_eq, hset_eq]
  · rw [hset_nk e, hset_nk e, b4]
theorem RM_mark {S : Sh} {h : Hp} {g x : Int} (hM : RM S h) : RM (hset S 1 g x) (hset h 149 g x) := by
  obtain ⟨⟨a1, a2, a3, a4⟩, mG, mN, mE⟩ := hM
  refine ⟨⟨a1, a2, a3, a4⟩, fun g' h0 h1 => ?_, mN, mE⟩
  obtain ⟨b1, b2, b3, b4⟩ := mG g' h0 h1
  refine ⟨b1, ?_, b3, b4⟩
  by_cases e : g' = g
  · subst e; rw [hset_eq, hset_eq]
  · rw [hset_nk e, hset_nk e, b2]
theorem RM_wish {S : Sh} {h : Hp} {w n x : Int} (hM : RM S h) : RM (hset (hset S 4 w n) 5 w x) (hset (hset h 152 w n) 153 w x) := by
  obtain ⟨⟨a1, a2, a3, a4⟩, mG, mN, mE⟩ := hM
  refine ⟨⟨a1, a2, a3, a4⟩, mG, fun w' h0 h1 => ?_, mE⟩
  obtain ⟨b1, b2⟩ := mN w' h0 h1
  by_cases e : w' = w
  · subst e
    exact ⟨by simp [hset], by simp [hset]⟩
  · exact ⟨by simp [hset, e, b1], by simp [hset, e, b2]⟩
theorem RM_forget {S : Sh} {h : Hp} (hM : RM S h) : RM (hset S 6 3 0) (hset h 9 11 0) := by
  obtain ⟨⟨a1, a2, a3, a4⟩, mG, mN, mE⟩ := hM
  exact ⟨⟨a1, a2, a3, rfl⟩, mG, mN, fun i h0 h1 => by rw [hset_eq] at h1; exfalso; omega⟩
theorem RM_see {S : Sh} {h : Hp} {g m t : Int} (hM : RM S h) (h0 : 0 ≤ S 6 3) : RM (seeS S g m t) (hset (hset (hset (hset h 157 (S 6 3) g) 158 (S 6 3) m) 159 (S 6 3) t) 9 11 (S 6 3 + 1)) := by
  obtain ⟨⟨a1, a2, a3, a4⟩, mG, mN, mE⟩ := hM
  refine ⟨⟨a1, a2, a3, rfl⟩, mG, mN, fun i h0 h1 => ?_⟩
  have h1 : i < S 6 3 + 1 := h1
  unfold seeS
  by_cases e : i = S 6 3
  · rw [e]
    simp [hset]
  · have := mE i h0 (by omega)
    simp [hset, e]
    exact this

theorem WF_age {S : Sh} {g v : Int} (hW : WF S) (hv : 0 ≤ v ∧ v ≤ 20) : WF (hset S 2 g v) := by
  refine ⟨hW.1, hW.2.1, hW.2.2.1, fun k h0 h1 => ?_, hW.2.2.2.2.1, hW.2.2.2.2.2.1, hW.2.2.2.2.2.2⟩
  have := wf_g hW ⟨h0, h1⟩
  refine ⟨this.1, this.2.1, ?_, this.2.2.2⟩
  by_cases e : k = g
  · subst e; rw [hset_eq]; exact hv
  · rw [hset_nk e]; exact this.2.2.1
theorem RM_age {S : Sh} {h : Hp} {g x : Int} (hM : RM S h) : RM (hset S 2 g x) (hset h 150 g x) := by
  obtain ⟨⟨a1, a2, a3, a4⟩, mG, mN, mE⟩ := hM
  refine ⟨⟨a1, a2, a3, a4⟩, fun g' h0 h1 => ?_, mN, mE⟩
  obtain ⟨b1, b2, b3, b4⟩ := mG g' h0 h1
  refine ⟨b1, b2, ?_, b4⟩
  by_cases e : g' = g
  · subst e; rw [hset_eq, hset_eq]
  · rw [hset_nk e, hset_nk e, b3]
def passA (S : Sh) : Sh := fun t k => if t = 2 ∧ ¬ hold (S 3 k) = -1 then agez (S 2 k + 1) else S t k
theorem passA_t {S : Sh} {t : Nat} {k : Int} (h : t ≠ 2) : passA S t k = S t k := if_neg (fun q => h q.1)
theorem passS_A (S : Sh) : passS S = hset (passA S) 6 2 (S 6 2 + 1) := by
  funext t k
  unfold passS hset passA
  by_cases e : t = 6 ∧ k = 2
  · rw [if_pos e]
  · rw [if_neg e]
theorem RM_hours {S : Sh} {h : Hp} {x : Int} (hM : RM S h) : RM (hset S 6 2 x) (hset h 9 9 x) := by
  obtain ⟨⟨a1, a2, a3, a4⟩, mG, mN, mE⟩ := hM
  exact ⟨⟨a1, a2, rfl, a4⟩, mG, mN, mE⟩
theorem c_X7_goBy {S : Sh} {h : Hp} {Q : Int → Hp → Prop} (hM : RM S h) (hW : WF S) (hq : ∀ h', RM (passA S) h' → EX h h' 150 → Q 0 h') : CJ 1 kX7_goBy [.ref 9] h Q := by
  have hnn := wf_n hW
  have hng := nG_eq hW
  refine cj_of (lo := [some (.ref 9), none]) mok_X7_goBy (fun _ => rfl) (fun _ => Nat.le_of_ble_eq_true rfl) ?_
  refine xj_iconst (pc2 := 1) dX7_goBy_0 rfl ?_
  refine xj_istore1 (pc2 := 2) dX7_goBy_1 rfl rfl (by decide) rfl ?_
  refine down (P := fun j => ∀ (T : Sh) (h' : Hp), RM T h' → WF T → EX h h' 150 → (∀ t k, t ≠ 2 → T t k = S t k) → (∀ k, 0 ≤ k → k < (j : Int) → T 2 k = passA S 2 k) → (∀ k, (j : Int) ≤ k → T 2 k = S 2 k) → XJ none 1 kX7_goBy h' 2 [some (.ref 9), some (vi (j : Int))] [] Q) (n := nG S) ?_ ?_ S h hM hW EX_rf (fun _ _ _ => rfl) (fun k h0 h1 => by exfalso; omega) (fun _ _ => rfl)
  · intro T h' hT hWT hex e1 e2 e3
    obtain ⟨⟨hn, hw, hh, hs⟩, mG, mN, mE⟩ := id hT
    rw [e1 6 0 (by decide)] at hn mG
    rw [e1 6 1 (by decide)] at hw mN
    rw [e1 6 2 (by decide)] at hh
    rw [e1 6 3 (by decide)] at hs mE
    have fin : RM (passA S) h' := by
      refine ⟨⟨hn, hw, hh, hs⟩, fun g h0 h1 => ?_, fun w h0 h1 => ?_, fun i h0 h1 => ?_⟩
      · have h1 : g < S 6 0 := h1
        obtain ⟨b1, b2, b3, b4⟩ := mG g h0 h1
        rw [e1 _ _ (by decide)] at b1 b2 b4
        rw [e2 g h0 (by omega)] at b3
        exact ⟨b1, b2, b3, b4⟩
      · have := mN w h0 h1
        rw [e1 _ _ (by decide), e1 _ _ (by decide)] at this
        exact this
      · have := mE i h0 h1
        rw [e1 _ _ (by decide), e1 _ _ (by decide), e1 _ _ (by decide)] at this
        exact this
    refine xj_iload_n (pc2 := 3) dX7_goBy_2 rfl rfl rfl ?_
    refine xj_aload_n (pc2 := 4) dX7_goBy_3 rfl rfl rfl ?_
    refine xj_getI (pc2 := 7) (kz := 1) fok_X7_113 dX7_goBy_4 rfl rfl rfl (by decide) rfl (by first | assumption | rfl) ?_
    refine xj_cmp_ge (pc2 := 10) (tgt := 47) dX7_goBy_7 rfl rfl (by omega) (by omega) (fun c_7 => ?_) (fun c_7 => by exfalso; omega)
    refine xj_vret dX7_goBy_47 rfl ?_
    exact hq _ fin hex
  · intro j hj ih T h' hM hW hex e1 e2 e3
    have e60 : T 6 0 = S 6 0 := e1 6 0 (by decide)
    have hnT := wf_n hW
    obtain ⟨⟨hn, hw, hh, hs⟩, mG, mN, mE⟩ := id hM
    have hwg := wf_g hW (g := (j : Int)) (by omega)
    have hag := agez_rg (a := T 2 j + 1) (by omega)
    have e4 : hold (S 3 (j : Int)) = -1 ↔ S 3 (j : Int) = -1 := hold_m (by rw [← e1 3 j (by decide)]; omega)
    rw [← e1 3 j (by decide)] at e4
    have e5 : T 2 (j : Int) = S 2 j := e3 j (by omega)
    refine xj_iload_n (pc2 := 3) dX7_goBy_2 rfl rfl rfl ?_
    refine xj_aload_n (pc2 := 4) dX7_goBy_3 rfl rfl rfl ?_
    refine xj_getI (pc2 := 7) (kz := 1) fok_X7_113 dX7_goBy_4 rfl rfl rfl (by decide) rfl (by first | assumption | rfl) ?_
    refine xj_cmp_ge (pc2 := 10) (tgt := 47) dX7_goBy_7 rfl rfl (by omega) (by omega) (fun c_7 => by exfalso; omega) (fun c_7 => ?_)
    refine xj_aload_n (pc2 := 11) dX7_goBy_10 rfl rfl rfl ?_
    refine xj_getRn (pc2 := 14) (c2 := 150) fok_X7_16 dX7_goBy_11 rfl rfl rfl rfl rfl ?_
    refine xj_iload_n (pc2 := 15) dX7_goBy_14 rfl rfl rfl ?_
    refine xj_aload_n (pc2 := 16) dX7_goBy_15 rfl rfl rfl ?_
    refine xj_getRn (pc2 := 19) (c2 := 151) fok_X7_19 dX7_goBy_16 rfl rfl rfl rfl rfl ?_
    refine xj_iload_n (pc2 := 20) dX7_goBy_19 rfl rfl rfl ?_
    refine xj_iald (pc2 := 21) dX7_goBy_20 rfl rfl (by omega) (by omega) (mG _ (by omega) (by omega)).2.2.2 ?_
    refine xj_iconst (pc2 := 22) dX7_goBy_21 rfl ?_
    refine xj_cmp_ne (pc2 := 25) (tgt := 34) dX7_goBy_22 rfl rfl (by omega) (by omega) (fun c_22 => ?_) (fun c_22 => ?_)
    · -- 34
      refine xj_aload_n (pc2 := 35) dX7_goBy_34 rfl rfl rfl ?_
      refine xj_iload_n (pc2 := 36) dX7_goBy_35 rfl rfl rfl ?_
      refine xj_iconst (pc2 := 37) dX7_goBy_36 rfl ?_
      refine xj_V2I (pc2 := 40) (d2 := 0) mok_X7_aged ml_X7_128 ima_yX7_aged sel_yX7_aged rfl rfl dX7_goBy_37 rfl rfl (by decide) (by decide) (Nat.le_of_ble_eq_true rfl) (fun _ => rfl) ?_
      refine c_X7_aged hM hW (by omega) (by omega) ?_
      refine xj_iast (pc2 := 41) dX7_goBy_40 rfl rfl (by omega) (by omega) ?_
      refine xj_iinc1 (pc2 := 44) dX7_goBy_41 rfl (by decide) rfl ?_
      refine xj_goto (tgt := 2) dX7_goBy_44 rfl ?_
      refine ih _ _ (RM_age hM) (WF_age hW (by omega)) (fun c k hc => (hset_nc hc).trans (hex c k hc)) (fun t k ht => (hset_nc ht).trans (e1 t k ht)) (fun k h0 h1 => ?_) (fun k h1 => by rw [hset_nk (by omega)]; exact e3 k (by omega))
      by_cases e : k = (j : Int)
      · subst e
        rw [hset_eq]
        unfold passA
        rw [← e1 3 j (by decide), ← e5]
        first
        | rw [if_neg (fun q => q.2 (e4.mpr (by omega)))]
        | rw [if_pos ⟨rfl, fun q => by have := e4.mp q; omega⟩]
      · rw [hset_nk e]
        exact e2 k h0 (by omega)
    · -- 25
      refine xj_aload_n (pc2 := 26) dX7_goBy_25 rfl rfl rfl ?_
      refine xj_getRn (pc2 := 29) (c2 := 150) fok_X7_16 dX7_goBy_26 rfl rfl rfl rfl rfl ?_
      refine xj_iload_n (pc2 := 30) dX7_goBy_29 rfl rfl rfl ?_
      refine xj_iald (pc2 := 31) dX7_goBy_30 rfl rfl (by omega) (by omega) (mG _ (by omega) (by omega)).2.2.1 ?_
      refine xj_goto (tgt := 40) dX7_goBy_31 rfl ?_
      refine xj_iast (pc2 := 41) dX7_goBy_40 rfl rfl (by omega) (by omega) ?_
      refine xj_iinc1 (pc2 := 44) dX7_goBy_41 rfl (by decide) rfl ?_
      refine xj_goto (tgt := 2) dX7_goBy_44 rfl ?_
      refine ih _ _ (RM_age hM) (WF_age hW (by omega)) (fun c k hc => (hset_nc hc).trans (hex c k hc)) (fun t k ht => (hset_nc ht).trans (e1 t k ht)) (fun k h0 h1 => ?_) (fun k h1 => by rw [hset_nk (by omega)]; exact e3 k (by omega))
      by_cases e : k = (j : Int)
      · subst e
        rw [hset_eq]
        unfold passA
        rw [← e1 3 j (by decide), ← e5]
        first
        | rw [if_neg (fun q => q.2 (e4.mpr (by omega)))]
        | rw [if_pos ⟨rfl, fun q => by have := e4.mp q; omega⟩]
      · rw [hset_nk e]
        exact e2 k h0 (by omega)
theorem wf_wear {S : Sh} {g w s : Int} (hW : WF S) (hk : okW S g w s) : WF (hset S 3 g (2 * w + s)) := by
  obtain ⟨k1, k2, k3, k4, k5⟩ := hk
  have hnn := wf_n hW
  rcases goZ_spec hW (2 * w + s) with ⟨-, e⟩ | ⟨e, -⟩
  · exact WF_hand hW k1 (Or.inr ⟨by omega, by omega, e⟩)
  · omega
theorem c_X7_wear {S I : Sh} {len : Int} {pg : Int → Int} {im tr td : Int} {g w s : Int} {h : Hp} {Q : Int → Hp → Prop} (hK : KM S I len pg im tr td h) (hW : WF S) (hg : -2147483648 ≤ g ∧ g ≤ 2147483647) (hw0 : -2147483648 ≤ w ∧ w ≤ 2147483647) (hs0 : -2147483648 ≤ s ∧ s ≤ 2147483647) (h1 : okW S g w s → ∀ h', KM (hset S 3 g (2 * w + s)) I len pg im tr td h' → FrM h h' → Q (moodN (hset S 3 g (2 * w + s)) w) h') (h0 : ¬ okW S g w s → Q (wearR S g w s) h) : CJ 5 kX7_wear [.ref 9, vi g, vi w, vi s] h Q := by
  have hM := hK.1
  obtain ⟨⟨hn, hw, hh, hs⟩, mG, mN, mE⟩ := id hM
  have hnn := wf_n hW
  have hwf := fun q => wf_wear (g := g) (w := w) (s := s) hW q
  unfold okW at h1 hwf
  unfold okW wearR at h0
  refine cj_of (lo := [some (.ref 9), some (vi g), some (vi w), some (vi s)]) mok_X7_wear (fun _ => rfl) (fun _ => Nat.le_of_ble_eq_true rfl) ?_
  refine xj_aload_n (pc2 := 1) dX7_wear_0 rfl rfl rfl ?_
  refine xj_iload_n (pc2 := 2) dX7_wear_1 rfl rfl rfl ?_
  refine xj_V1I (pc2 := 5) (d2 := 1) mok_X7_isGlove ml_X7_164 ima_yX7_isGlove sel_yX7_isGlove rfl rfl dX7_wear_2 rfl rfl (by decide) (by decide) (Nat.le_of_ble_eq_true rfl) (fun _ => rfl) ?_
  refine c_X7_isGlove hM hW (by omega) ?_ ?_
  · -- X7_isGlove = 1
    intro c_2
    refine xj_if_eq (pc2 := 8) (tgt := 16) dX7_wear_5 rfl rfl (by omega) (fun c_5 => absurd c_5 (by decide)) (fun c_5 => ?_)
    refine xj_aload_n (pc2 := 9) dX7_wear_8 rfl rfl rfl ?_
    refine xj_iload_n (pc2 := 10) dX7_wear_9 rfl rfl rfl ?_
    refine xj_V1I (pc2 := 13) (d2 := 1) mok_X7_isWearer ml_X7_182 ima_yX7_isWearer sel_yX7_isWearer rfl rfl dX7_wear_10 rfl rfl (by decide) (by decide) (Nat.le_of_ble_eq_true rfl) (fun _ => rfl) ?_
    refine c_X7_isWearer hM hW (by omega) ?_ ?_
    · -- X7_isWearer = 1
      intro c_10
      refine xj_if_ne (pc2 := 16) (tgt := 19) dX7_wear_13 rfl rfl (by omega) (fun c_13 => ?_) (fun c_13 => absurd c_13 (by decide))
      refine xj_iload_n (pc2 := 20) dX7_wear_19 rfl rfl rfl ?_
      refine xj_iconst (pc2 := 21) dX7_wear_20 rfl ?_
      refine xj_iconst (pc2 := 22) dX7_wear_21 rfl ?_
      refine xj_S3I (pc2 := 25) (d2 := 0) mok_X7_within ml_X7_77 sta_yX7_within dX7_wear_22 rfl rfl (by decide) (by decide) (Nat.le_of_ble_eq_true rfl) (fun _ => rfl) ?_
      refine c_X7_within (by omega) (by omega) (by omega) ?_ ?_
      · -- X7_within = 1
        intro c_22
        refine xj_if_ne (pc2 := 28) (tgt := 31) dX7_wear_25 rfl rfl (by omega) (fun c_25 => ?_) (fun c_25 => absurd c_25 (by decide))
        have hwg := wf_g hW c_2
        have hgo := goZ_rg hW (2 * w + s)
        refine xj_aload_n (pc2 := 32) dX7_wear_31 rfl rfl rfl ?_
        refine xj_getRn (pc2 := 35) (c2 := 151) fok_X7_19 dX7_wear_32 rfl rfl rfl rfl rfl ?_
        refine xj_iload_n (pc2 := 36) dX7_wear_35 rfl rfl rfl ?_
        refine xj_iald (pc2 := 37) dX7_wear_36 rfl rfl (by omega) (by omega) (mG _ (by omega) (by omega)).2.2.2 ?_
        refine xj_iconst (pc2 := 38) dX7_wear_37 rfl ?_
        refine xj_cmp_ne (pc2 := 41) (tgt := 54) dX7_wear_38 rfl rfl (by omega) (by omega) (fun c_38 => ?_) (fun c_38 => ?_)
        · -- 54
          refine xj_bipush (pc2 := 56) dX7_wear_54 rfl (by decide) ?_
          refine xj_iret dX7_wear_56 rfl ?_
          exact q_eq (by (repeat' split) <;> omega) (h0 (by omega))
        · -- 41
          refine xj_aload_n (pc2 := 42) dX7_wear_41 rfl rfl rfl ?_
          refine xj_iconst (pc2 := 43) dX7_wear_42 rfl ?_
          refine xj_iload_n (pc2 := 44) dX7_wear_43 rfl rfl rfl ?_
          refine xj_imul (pc2 := 45) dX7_wear_44 rfl ?_
          refine xj_iload_n (pc2 := 46) dX7_wear_45 rfl rfl rfl ?_
          refine xj_iadd (pc2 := 47) dX7_wear_46 rfl ?_
          refine xj_V1I (pc2 := 50) (d2 := 0) mok_X7_onHand ml_X7_173 ima_yX7_onHand sel_yX7_onHand rfl rfl dX7_wear_47 rfl rfl (by decide) (by decide) (Nat.le_of_ble_eq_true rfl) (fun _ => rfl) ?_
          refine c_X7_onHand hM hW (by omega) ?_
          refine xj_iconst (pc2 := 51) dX7_wear_50 rfl ?_
          refine xj_cmp_eq (pc2 := 54) (tgt := 57) dX7_wear_51 rfl rfl (by omega) (by omega) (fun c_51 => ?_) (fun c_51 => ?_)
          · -- 57
            refine xj_aload_n (pc2 := 58) dX7_wear_57 rfl rfl rfl ?_
            refine xj_getRn (pc2 := 61) (c2 := 151) fok_X7_19 dX7_wear_58 rfl rfl rfl rfl rfl ?_
            refine xj_iload_n (pc2 := 62) dX7_wear_61 rfl rfl rfl ?_
            refine xj_iconst (pc2 := 63) dX7_wear_62 rfl ?_
            refine xj_iload_n (pc2 := 64) dX7_wear_63 rfl rfl rfl ?_
            refine xj_imul (pc2 := 65) dX7_wear_64 rfl ?_
            refine xj_iload_n (pc2 := 66) dX7_wear_65 rfl rfl rfl ?_
            refine xj_iadd (pc2 := 67) dX7_wear_66 rfl ?_
            refine xj_iast (pc2 := 68) dX7_wear_67 rfl rfl (by omega) (by omega) ?_
            refine xj_aload_n (pc2 := 69) dX7_wear_68 rfl rfl rfl ?_
            refine xj_iload_n (pc2 := 70) dX7_wear_69 rfl rfl rfl ?_
            refine xj_V1I (pc2 := 73) (d2 := 4) mok_X7_moodNow ml_X7_170 ima_yX7_moodNow sel_yX7_moodNow rfl rfl dX7_wear_70 rfl rfl (by decide) (by decide) (Nat.le_of_ble_eq_true rfl) (fun _ => rfl) ?_
            have hok : (0 ≤ g ∧ g < S 6 0) ∧ (0 ≤ w ∧ w < S 6 1) ∧ (0 ≤ s ∧ s ≤ 1) ∧ S 3 g = -1 ∧ goZ S (2 * w + s) = -1 := ⟨c_2, c_10, c_22, by omega, by omega⟩
            refine c_X7_moodNow (RM_hand hM) (hwf hok) c_10 ?_
            refine xj_iret dX7_wear_73 rfl ?_
            exact h1 hok _ (KM_shop hK (RM_hand hM) rfl rfl (fun _ => rfl) (fun c k q1 q2 => hset_nc (by omega))) (fun c k q1 q2 => hset_nc (by omega))
          · -- 54
            refine xj_bipush (pc2 := 56) dX7_wear_54 rfl (by decide) ?_
            refine xj_iret dX7_wear_56 rfl ?_
            exact q_eq (by (repeat' split) <;> omega) (h0 (by omega))
      · -- X7_within = 0
        intro c_22
        refine xj_if_ne (pc2 := 28) (tgt := 31) dX7_wear_25 rfl rfl (by omega) (fun c_25 => absurd c_25 (by decide)) (fun c_25 => ?_)
        refine xj_bipush (pc2 := 30) dX7_wear_28 rfl (by decide) ?_
        refine xj_iret dX7_wear_30 rfl ?_
        exact q_eq (by (repeat' split) <;> omega) (h0 (by omega))
    · -- X7_isWearer = 0
      intro c_10
      refine xj_if_ne (pc2 := 16) (tgt := 19) dX7_wear_13 rfl rfl (by omega) (fun c_13 => absurd c_13 (by decide)) (fun c_13 => ?_)
      refine xj_bipush (pc2 := 18) dX7_wear_16 rfl (by decide) ?_
      refine xj_iret dX7_wear_18 rfl ?_
      exact q_eq (by (repeat' split) <;> omega) (h0 (by omega))
  · -- X7_isGlove = 0
    intro c_2
    refine xj_if_eq (pc2 := 8) (tgt := 16) dX7_wear_5 rfl rfl (by omega) (fun c_5 => ?_) (fun c_5 => absurd c_5 (by decide))
    refine xj_bipush (pc2 := 18) dX7_wear_16 rfl (by decide) ?_
    refine xj_iret dX7_wear_18 rfl ?_
    exact q_eq (by (repeat' split) <;> omega) (h0 (by omega))
theorem c_X7_off {S I : Sh} {len : Int} {pg : Int → Int} {im tr td : Int} {g : Int} {h : Hp} {Q : Int → Hp → Prop} (hK : KM S I len pg im tr td h) (hW : WF S) (hg : -2147483648 ≤ g ∧ g ≤ 2147483647) (h1 : okO S g → ∀ h', KM (hset S 3 g (-1)) I len pg im tr td h' → FrM h h' → Q (hold (S 3 g)) h') (h0 : ¬ okO S g → Q (offR S g) h) : CJ 2 kX7_off [.ref 9, vi g] h Q := by
  have hM := hK.1
  obtain ⟨⟨hn, hw, hh, hs⟩, mG, mN, mE⟩ := id hM
  have hnn := wf_n hW
  unfold okO hold at h1
  unfold okO offR at h0
  refine cj_of (lo := [some (.ref 9), some (vi g), none]) mok_X7_off (fun _ => rfl) (fun _ => Nat.le_of_ble_eq_true rfl) ?_
  refine xj_aload_n (pc2 := 1) dX7_off_0 rfl rfl rfl ?_
  refine xj_iload_n (pc2 := 2) dX7_off_1 rfl rfl rfl ?_
  refine xj_V1I (pc2 := 5) (d2 := 1) mok_X7_isGlove ml_X7_164 ima_yX7_isGlove sel_yX7_isGlove rfl rfl dX7_off_2 rfl rfl (by decide) (by decide) (Nat.le_of_ble_eq_true rfl) (fun _ => rfl) ?_
  refine c_X7_isGlove hM hW (by omega) ?_ ?_
  · -- X7_isGlove = 1
    intro c_2
    refine xj_if_ne (pc2 := 8) (tgt := 11) dX7_off_5 rfl rfl (by omega) (fun c_5 => ?_) (fun c_5 => absurd c_5 (by decide))
    have hwg := wf_g hW c_2
    refine xj_aload_n (pc2 := 12) dX7_off_11 rfl rfl rfl ?_
    refine xj_getRn (pc2 := 15) (c2 := 151) fok_X7_19 dX7_off_12 rfl rfl rfl rfl rfl ?_
    refine xj_iload_n (pc2 := 16) dX7_off_15 rfl rfl rfl ?_
    refine xj_iald (pc2 := 17) dX7_off_16 rfl rfl (by omega) (by omega) (mG _ (by omega) (by omega)).2.2.2 ?_
    refine xj_iconst (pc2 := 18) dX7_off_17 rfl ?_
    refine xj_cmp_ne (pc2 := 21) (tgt := 24) dX7_off_18 rfl rfl (by omega) (by omega) (fun c_18 => ?_) (fun c_18 => ?_)
    · -- 24
      refine xj_aload_n (pc2 := 25) dX7_off_24 rfl rfl rfl ?_
      refine xj_getRn (pc2 := 28) (c2 := 151) fok_X7_19 dX7_off_25 rfl rfl rfl rfl rfl ?_
      refine xj_iload_n (pc2 := 29) dX7_off_28 rfl rfl rfl ?_
      refine xj_iald (pc2 := 30) dX7_off_29 rfl rfl (by omega) (by omega) (mG _ (by omega) (by omega)).2.2.2 ?_
      refine xj_iconst (pc2 := 31) dX7_off_30 rfl ?_
      refine xj_idiv (pc2 := 32) dX7_off_31 rfl (by omega) (by omega) ?_
      refine xj_istore2 (pc2 := 33) dX7_off_32 rfl rfl (by decide) rfl ?_
      refine xj_aload_n (pc2 := 34) dX7_off_33 rfl rfl rfl ?_
      refine xj_getRn (pc2 := 37) (c2 := 151) fok_X7_19 dX7_off_34 rfl rfl rfl rfl rfl ?_
      refine xj_iload_n (pc2 := 38) dX7_off_37 rfl rfl rfl ?_
      refine xj_iconst (pc2 := 39) dX7_off_38 rfl ?_
      refine xj_iast (pc2 := 40) dX7_off_39 rfl rfl (by omega) (by omega) ?_
      refine xj_iload_n (pc2 := 41) dX7_off_40 rfl rfl rfl ?_
      refine xj_iret dX7_off_41 rfl ?_
      exact q_eq (by (repeat' split) <;> omega) (h1 (by omega) _ (KM_shop hK (RM_hand hM) rfl rfl (fun _ => rfl) (fun c k q1 q2 => hset_nc (by omega))) (fun c k q1 q2 => hset_nc (by omega)))
    · -- 21
      refine xj_bipush (pc2 := 23) dX7_off_21 rfl (by decide) ?_
      refine xj_iret dX7_off_23 rfl ?_
      exact q_eq (by (repeat' split) <;> omega) (h0 (by omega))
  · -- X7_isGlove = 0
    intro c_2
    refine xj_if_ne (pc2 := 8) (tgt := 11) dX7_off_5 rfl rfl (by omega) (fun c_5 => absurd c_5 (by decide)) (fun c_5 => ?_)
    refine xj_bipush (pc2 := 10) dX7_off_8 rfl (by decide) ?_
    refine xj_iret dX7_off_10 rfl ?_
    exact q_eq (by (repeat' split) <;> omega) (h0 (by omega))
theorem c_X7_hour {S I : Sh} {len : Int} {pg : Int → Int} {im tr td : Int} {h : Hp} {Q : Int → Hp → Prop} (hK : KM S I len pg im tr td h) (hW : WF S) (h999 : S 6 2 ≤ 999) (h1 : okH S → ∀ h', KM (passS S) I len pg im tr td h' → FrM h h' → Q (S 6 2 + 1) h') (h0 : ¬ okH S → Q (hourR S) h) : CJ 2 kX7_hour [.ref 9] h Q := by
  have hM := hK.1
  obtain ⟨⟨hn, hw, hh, hs⟩, mG, mN, mE⟩ := id hM
  have hnn := wf_n hW
  unfold okH at h1
  unfold okH hourR at h0
  rw [passS_A] at h1
  refine cj_of (lo := [some (.ref 9)]) mok_X7_hour (fun _ => rfl) (fun _ => Nat.le_of_ble_eq_true rfl) ?_
  refine xj_aload_n (pc2 := 1) dX7_hour_0 rfl rfl rfl ?_
  refine xj_getI (pc2 := 4) (kz := 1) fok_X7_113 dX7_hour_1 rfl rfl rfl (by decide) rfl (by first | assumption | rfl) ?_
  refine xj_if_ne (pc2 := 7) (tgt := 10) dX7_hour_4 rfl rfl (by omega) (fun c_4 => ?_) (fun c_4 => ?_)
  · -- 10
    refine xj_aload_n (pc2 := 11) dX7_hour_10 rfl rfl rfl ?_
    refine xj_getI (pc2 := 14) (kz := 9) fok_X7_119 dX7_hour_11 rfl rfl rfl (by decide) rfl (by first | assumption | rfl) ?_
    refine xj_sipush (pc2 := 17) dX7_hour_14 rfl (by decide) ?_
    refine xj_cmp_ne (pc2 := 20) (tgt := 23) dX7_hour_17 rfl rfl (by omega) (by omega) (fun c_17 => ?_) (fun c_17 => ?_)
    · -- 23
      refine xj_aload_n (pc2 := 24) dX7_hour_23 rfl rfl rfl ?_
      refine xj_V0V (pc2 := 27) (d2 := 1) mok_X7_goBy ml_X7_188 ima_yX7_goBy sel_yX7_goBy rfl rfl dX7_hour_24 rfl rfl (by decide) (by decide) (Nat.le_of_ble_eq_true rfl) (fun _ => rfl) ?_
      refine c_X7_goBy hM hW ?_
      intro h2 hM2 hex
      refine xj_aload_n (pc2 := 28) dX7_hour_27 rfl rfl rfl ?_
      refine xj_dup (pc2 := 29) dX7_hour_28 rfl rfl ?_
      refine xj_getI (pc2 := 32) (kz := 9) fok_X7_119 dX7_hour_29 rfl rfl rfl (by decide) rfl (show h2 9 9 = S 6 2 from hM2.1.2.2.1) ?_
      refine xj_iconst (pc2 := 33) dX7_hour_32 rfl ?_
      refine xj_iadd (pc2 := 34) dX7_hour_33 rfl ?_
      refine xj_putI (pc2 := 37) (kz := 9) fok_X7_119 dX7_hour_34 rfl rfl rfl rfl rfl ?_
      refine xj_aload_n (pc2 := 38) dX7_hour_37 rfl rfl rfl ?_
      refine xj_getI (pc2 := 41) (kz := 9) fok_X7_119 dX7_hour_38 rfl rfl rfl (by decide) rfl (hset_eq _ _ _ _) ?_
      refine xj_iret dX7_hour_41 rfl ?_
      exact h1 (by omega) _ (KM_shop hK (RM_hours hM2) rfl rfl (fun _ => rfl) (fun c k q1 q2 => by
        rw [show hset h2 9 9 (S 6 2 + 1) c k = h2 c k from if_neg (by omega)]; exact hex c k (by omega))) (fun c k q1 q2 => by rw [hset_nc q2]; exact hex c k (by omega))
    · -- 20
      refine xj_bipush (pc2 := 22) dX7_hour_20 rfl (by decide) ?_
      refine xj_iret dX7_hour_22 rfl ?_
      exact q_eq (by (repeat' split) <;> omega) (h0 (by omega))
  · -- 7
    refine xj_bipush (pc2 := 9) dX7_hour_7 rfl (by decide) ?_
    refine xj_iret dX7_hour_9 rfl ?_
    exact q_eq (by (repeat' split) <;> omega) (h0 (by omega))
theorem c_X7_book {S I : Sh} {len : Int} {pg : Int → Int} {im tr td : Int} {g x : Int} {h : Hp} {Q : Int → Hp → Prop} (hK : KM S I len pg im tr td h) (hW : WF S) (hg : -2147483648 ≤ g ∧ g ≤ 2147483647) (hx : -2147483648 ≤ x ∧ x ≤ 2147483647) (h1 : okB S g x → ∀ h', KM (hset S 1 g x) I len pg im tr td h' → FrM h h' → Q (S 1 g) h') (h0 : ¬ okB S g x → Q (bookR S g) h) : CJ 2 kX7_book [.ref 9, vi g, vi x] h Q := by
  have hM := hK.1
  obtain ⟨⟨hn, hw, hh, hs⟩, mG, mN, mE⟩ := id hM
  have hnn := wf_n hW
  unfold okB at h1
  unfold okB bookR at h0
  refine cj_of (lo := [some (.ref 9), some (vi g), some (vi x), none]) mok_X7_book (fun _ => rfl) (fun _ => Nat.le_of_ble_eq_true rfl) ?_
  refine xj_aload_n (pc2 := 1) dX7_book_0 rfl rfl rfl ?_
  refine xj_iload_n (pc2 := 2) dX7_book_1 rfl rfl rfl ?_
  refine xj_V1I (pc2 := 5) (d2 := 1) mok_X7_isGlove ml_X7_164 ima_yX7_isGlove sel_yX7_isGlove rfl rfl dX7_book_2 rfl rfl (by decide) (by decide) (Nat.le_of_ble_eq_true rfl) (fun _ => rfl) ?_
  refine c_X7_isGlove hM hW (by omega) ?_ ?_
  · -- X7_isGlove = 1
    intro c_2
    refine xj_if_ne (pc2 := 8) (tgt := 11) dX7_book_5 rfl rfl (by omega) (fun c_5 => ?_) (fun c_5 => absurd c_5 (by decide))
    refine xj_iload_n (pc2 := 12) dX7_book_11 rfl rfl rfl ?_
    refine xj_iconst (pc2 := 13) dX7_book_12 rfl ?_
    refine xj_bipush (pc2 := 15) dX7_book_13 rfl (by decide) ?_
    refine xj_S3I (pc2 := 18) (d2 := 0) mok_X7_within ml_X7_77 sta_yX7_within dX7_book_15 rfl rfl (by decide) (by decide) (Nat.le_of_ble_eq_true rfl) (fun _ => rfl) ?_
    refine c_X7_within (by omega) (by omega) (by omega) ?_ ?_
    · -- X7_within = 1
      intro c_15
      refine xj_if_ne (pc2 := 21) (tgt := 24) dX7_book_18 rfl rfl (by omega) (fun c_18 => ?_) (fun c_18 => absurd c_18 (by decide))
      refine xj_aload_n (pc2 := 25) dX7_book_24 rfl rfl rfl ?_
      refine xj_getRn (pc2 := 28) (c2 := 149) fok_X7_13 dX7_book_25 rfl rfl rfl rfl rfl ?_
      refine xj_iload_n (pc2 := 29) dX7_book_28 rfl rfl rfl ?_
      refine xj_iald (pc2 := 30) dX7_book_29 rfl rfl (by omega) (by omega) (mG _ (by omega) (by omega)).2.1 ?_
      refine xj_istore3 (pc2 := 31) dX7_book_30 rfl rfl (by decide) rfl ?_
      refine xj_aload_n (pc2 := 32) dX7_book_31 rfl rfl rfl ?_
      refine xj_getRn (pc2 := 35) (c2 := 149) fok_X7_13 dX7_book_32 rfl rfl rfl rfl rfl ?_
      refine xj_iload_n (pc2 := 36) dX7_book_35 rfl rfl rfl ?_
      refine xj_iload_n (pc2 := 37) dX7_book_36 rfl rfl rfl ?_
      refine xj_iast (pc2 := 38) dX7_book_37 rfl rfl (by omega) (by omega) ?_
      refine xj_iload_n (pc2 := 39) dX7_book_38 rfl rfl rfl ?_
      refine xj_iret dX7_book_39 rfl ?_
      exact h1 (by omega) _ (KM_shop hK (RM_mark hM) rfl rfl (fun _ => rfl) (fun c k q1 q2 => hset_nc (by omega))) (fun c k q1 q2 => hset_nc (by omega))
    · -- X7_within = 0
      intro c_15
      refine xj_if_ne (pc2 := 21) (tgt := 24) dX7_book_18 rfl rfl (by omega) (fun c_18 => absurd c_18 (by decide)) (fun c_18 => ?_)
      refine xj_bipush (pc2 := 23) dX7_book_21 rfl (by decide) ?_
      refine xj_iret dX7_book_23 rfl ?_
      exact q_eq (by (repeat' split) <;> omega) (h0 (by omega))
  · -- X7_isGlove = 0
    intro c_2
    refine xj_if_ne (pc2 := 8) (tgt := 11) dX7_book_5 rfl rfl (by omega) (fun c_5 => absurd c_5 (by decide)) (fun c_5 => ?_)
    refine xj_bipush (pc2 := 10) dX7_book_8 rfl (by decide) ?_
    refine xj_iret dX7_book_10 rfl ?_
    exact q_eq (by (repeat' split) <;> omega) (h0 (by omega))
theorem c_X7_wish {S I : Sh} {len : Int} {pg : Int → Int} {im tr td : Int} {w n x : Int} {h : Hp} {Q : Int → Hp → Prop} (hK : KM S I len pg im tr td h) (hW : WF S) (hg : -2147483648 ≤ w ∧ w ≤ 2147483647) (hn0 : -2147483648 ≤ n ∧ n ≤ 2147483647) (hx : -2147483648 ≤ x ∧ x ≤ 2147483647) (h1 : okY S w n x → ∀ h', KM (hset (hset S 4 w n) 5 w x) I len pg im tr td h' → FrM h h' → Q (S 5 w) h') (h0 : ¬ okY S w n x → Q (wishR S w) h) : CJ 2 kX7_wish [.ref 9, vi w, vi n, vi x] h Q := by
  have hM := hK.1
  obtain ⟨⟨hn, hw, hh, hs⟩, mG, mN, mE⟩ := id hM
  have hnn := wf_n hW
  unfold okY at h1
  unfold okY wishR at h0
  refine cj_of (lo := [some (.ref 9), some (vi w), some (vi n), some (vi x), none]) mok_X7_wish (fun _ => rfl) (fun _ => Nat.le_of_ble_eq_true rfl) ?_
  refine xj_aload_n (pc2 := 1) dX7_wish_0 rfl rfl rfl ?_
  refine xj_iload_n (pc2 := 2) dX7_wish_1 rfl rfl rfl ?_
  refine xj_V1I (pc2 := 5) (d2 := 1) mok_X7_isWearer ml_X7_182 ima_yX7_isWearer sel_yX7_isWearer rfl rfl dX7_wish_2 rfl rfl (by decide) (by decide) (Nat.le_of_ble_eq_true rfl) (fun _ => rfl) ?_
  refine c_X7_isWearer hM hW (by omega) ?_ ?_
  · -- X7_isWearer = 1
    intro c_2
    refine xj_if_ne (pc2 := 8) (tgt := 11) dX7_wish_5 rfl rfl (by omega) (fun c_5 => ?_) (fun c_5 => absurd c_5 (by decide))
    refine xj_iload_n (pc2 := 12) dX7_wish_11 rfl rfl rfl ?_
    refine xj_iconst (pc2 := 13) dX7_wish_12 rfl ?_
    refine xj_bipush (pc2 := 15) dX7_wish_13 rfl (by decide) ?_
    refine xj_S3I (pc2 := 18) (d2 := 0) mok_X7_within ml_X7_77 sta_yX7_within dX7_wish_15 rfl rfl (by decide) (by decide) (Nat.le_of_ble_eq_true rfl) (fun _ => rfl) ?_
    refine c_X7_within (by omega) (by omega) (by omega) ?_ ?_
    · -- X7_within = 1
      intro c_15
      refine xj_if_eq (pc2 := 21) (tgt := 30) dX7_wish_18 rfl rfl (by omega) (fun c_18 => absurd c_18 (by decide)) (fun c_18 => ?_)
      refine xj_iload_n (pc2 := 22) dX7_wish_21 rfl rfl rfl ?_
      refine xj_iconst (pc2 := 23) dX7_wish_22 rfl ?_
      refine xj_iconst (pc2 := 24) dX7_wish_23 rfl ?_
      refine xj_S3I (pc2 := 27) (d2 := 0) mok_X7_within ml_X7_77 sta_yX7_within dX7_wish_24 rfl rfl (by decide) (by decide) (Nat.le_of_ble_eq_true rfl) (fun _ => rfl) ?_
      refine c_X7_within (by omega) (by omega) (by omega) ?_ ?_
      · -- X7_within = 1
        intro c_24
        refine xj_if_ne (pc2 := 30) (tgt := 33) dX7_wish_27 rfl rfl (by omega) (fun c_27 => ?_) (fun c_27 => absurd c_27 (by decide))
        refine xj_aload_n (pc2 := 34) dX7_wish_33 rfl rfl rfl ?_
        refine xj_getRn (pc2 := 37) (c2 := 153) fok_X7_25 dX7_wish_34 rfl rfl rfl rfl rfl ?_
        refine xj_iload_n (pc2 := 38) dX7_wish_37 rfl rfl rfl ?_
        refine xj_iald (pc2 := 39) dX7_wish_38 rfl rfl (by omega) (by omega) (mN _ (by omega) (by omega)).2 ?_
        refine xj_istore4 (pc2 := 41) dX7_wish_39 rfl (by decide) rfl ?_
        refine xj_aload_n (pc2 := 42) dX7_wish_41 rfl rfl rfl ?_
        refine xj_getRn (pc2 := 45) (c2 := 152) fok_X7_22 dX7_wish_42 rfl rfl rfl rfl rfl ?_
        refine xj_iload_n (pc2 := 46) dX7_wish_45 rfl rfl rfl ?_
        refine xj_iload_n (pc2 := 47) dX7_wish_46 rfl rfl rfl ?_
        refine xj_iast (pc2 := 48) dX7_wish_47 rfl rfl (by omega) (by omega) ?_
        refine xj_aload_n (pc2 := 49) dX7_wish_48 rfl rfl rfl ?_
        refine xj_getRn (pc2 := 52) (c2 := 153) fok_X7_25 dX7_wish_49 rfl rfl rfl rfl rfl ?_
        refine xj_iload_n (pc2 := 53) dX7_wish_52 rfl rfl rfl ?_
        refine xj_iload_n (pc2 := 54) dX7_wish_53 rfl rfl rfl ?_
        refine xj_iast (pc2 := 55) dX7_wish_54 rfl rfl (by omega) (by omega) ?_
        refine xj_iload (pc2 := 57) dX7_wish_55 rfl rfl ?_
        refine xj_iret dX7_wish_57 rfl ?_
        exact h1 (by omega) _ (KM_shop hK (RM_wish hM) rfl rfl (fun _ => rfl) (fun c k q1 q2 => by rw [hset_nc (by omega), hset_nc (by omega)])) (fun c k q1 q2 => by rw [hset_nc (by omega), hset_nc (by omega)])
      · -- X7_within = 0
        intro c_24
        refine xj_if_ne (pc2 := 30) (tgt := 33) dX7_wish_27 rfl rfl (by omega) (fun c_27 => absurd c_27 (by decide)) (fun c_27 => ?_)
        refine xj_bipush (pc2 := 32) dX7_wish_30 rfl (by decide) ?_
        refine xj_iret dX7_wish_32 rfl ?_
        exact q_eq (by (repeat' split) <;> omega) (h0 (by omega))
    · -- X7_within = 0
      intro c_15
      refine xj_if_eq (pc2 := 21) (tgt := 30) dX7_wish_18 rfl rfl (by omega) (fun c_18 => ?_) (fun c_18 => absurd c_18 (by decide))
      refine xj_bipush (pc2 := 32) dX7_wish_30 rfl (by decide) ?_
      refine xj_iret dX7_wish_32 rfl ?_
      exact q_eq (by (repeat' split) <;> omega) (h0 (by omega))
  · -- X7_isWearer = 0
    intro c_2
    refine xj_if_ne (pc2 := 8) (tgt := 11) dX7_wish_5 rfl rfl (by omega) (fun c_5 => absurd c_5 (by decide)) (fun c_5 => ?_)
    refine xj_bipush (pc2 := 10) dX7_wish_8 rfl (by decide) ?_
    refine xj_iret dX7_wish_10 rfl ?_
    exact q_eq (by (repeat' split) <;> omega) (h0 (by omega))
theorem c_X7_see {S I : Sh} {len : Int} {pg : Int → Int} {im tr td : Int} {g m t : Int} {h : Hp} {Q : Int → Hp → Prop} (hK : KM S I len pg im tr td h) (hW : WF S) (hg : -2147483648 ≤ g ∧ g ≤ 2147483647) (hm : -2147483648 ≤ m ∧ m ≤ 2147483647) (ht : -2147483648 ≤ t ∧ t ≤ 2147483647) (h1 : okS S g m t → ∀ h', KM (seeS S g m t) I len pg im tr td h' → FrM h h' → Q (S 6 3 + 1) h') (h0 : ¬ okS S g m t → Q (seeR S g m t) h) : CJ 2 kX7_see [.ref 9, vi g, vi m, vi t] h Q := by
  have hM := hK.1
  obtain ⟨⟨hn, hw, hh, hs⟩, mG, mN, mE⟩ := id hM
  have hnn := wf_n hW
  unfold okS at h1
  unfold okS seeR at h0
  refine cj_of (lo := [some (.ref 9), some (vi g), some (vi m), some (vi t)]) mok_X7_see (fun _ => rfl) (fun _ => Nat.le_of_ble_eq_true rfl) ?_
  refine xj_aload_n (pc2 := 1) dX7_see_0 rfl rfl rfl ?_
  refine xj_iload_n (pc2 := 2) dX7_see_1 rfl rfl rfl ?_
  refine xj_V1I (pc2 := 5) (d2 := 1) mok_X7_isGlove ml_X7_164 ima_yX7_isGlove sel_yX7_isGlove rfl rfl dX7_see_2 rfl rfl (by decide) (by decide) (Nat.le_of_ble_eq_true rfl) (fun _ => rfl) ?_
  refine c_X7_isGlove hM hW (by omega) ?_ ?_
  · -- X7_isGlove = 1
    intro c_2
    refine xj_if_ne (pc2 := 8) (tgt := 11) dX7_see_5 rfl rfl (by omega) (fun c_5 => ?_) (fun c_5 => absurd c_5 (by decide))
    refine xj_iload_n (pc2 := 12) dX7_see_11 rfl rfl rfl ?_
    refine xj_iconst (pc2 := 13) dX7_see_12 rfl ?_
    refine xj_bipush (pc2 := 15) dX7_see_13 rfl (by decide) ?_
    refine xj_S3I (pc2 := 18) (d2 := 0) mok_X7_within ml_X7_77 sta_yX7_within dX7_see_15 rfl rfl (by decide) (by decide) (Nat.le_of_ble_eq_true rfl) (fun _ => rfl) ?_
    refine c_X7_within (by omega) (by omega) (by omega) ?_ ?_
    · -- X7_within = 1
      intro c_15
      refine xj_if_eq (pc2 := 21) (tgt := 31) dX7_see_18 rfl rfl (by omega) (fun c_18 => absurd c_18 (by decide)) (fun c_18 => ?_)
      refine xj_iload_n (pc2 := 22) dX7_see_21 rfl rfl rfl ?_
      refine xj_iconst (pc2 := 23) dX7_see_22 rfl ?_
      refine xj_bipush (pc2 := 25) dX7_see_23 rfl (by decide) ?_
      refine xj_S3I (pc2 := 28) (d2 := 0) mok_X7_within ml_X7_77 sta_yX7_within dX7_see_25 rfl rfl (by decide) (by decide) (Nat.le_of_ble_eq_true rfl) (fun _ => rfl) ?_
      refine c_X7_within (by omega) (by omega) (by omega) ?_ ?_
      · -- X7_within = 1
        intro c_25
        refine xj_if_ne (pc2 := 31) (tgt := 34) dX7_see_28 rfl rfl (by omega) (fun c_28 => ?_) (fun c_28 => absurd c_28 (by decide))
        refine xj_aload_n (pc2 := 35) dX7_see_34 rfl rfl rfl ?_
        refine xj_getI (pc2 := 38) (kz := 11) fok_X7_125 dX7_see_35 rfl rfl rfl (by decide) rfl (by first | assumption | rfl) ?_
        refine xj_bipush (pc2 := 40) dX7_see_38 rfl (by decide) ?_
        refine xj_cmp_ne (pc2 := 43) (tgt := 46) dX7_see_40 rfl rfl (by omega) (by omega) (fun c_40 => ?_) (fun c_40 => ?_)
        · -- 46
          refine xj_aload_n (pc2 := 47) dX7_see_46 rfl rfl rfl ?_
          refine xj_getRn (pc2 := 50) (c2 := 157) fok_X7_28 dX7_see_47 rfl rfl rfl rfl rfl ?_
          refine xj_aload_n (pc2 := 51) dX7_see_50 rfl rfl rfl ?_
          refine xj_getI (pc2 := 54) (kz := 11) fok_X7_125 dX7_see_51 rfl rfl rfl (by decide) rfl (by first | assumption | rfl) ?_
          refine xj_iload_n (pc2 := 55) dX7_see_54 rfl rfl rfl ?_
          refine xj_iast (pc2 := 56) dX7_see_55 rfl rfl (by omega) (by omega) ?_
          refine xj_aload_n (pc2 := 57) dX7_see_56 rfl rfl rfl ?_
          refine xj_getRn (pc2 := 60) (c2 := 158) fok_X7_31 dX7_see_57 rfl rfl rfl rfl rfl ?_
          refine xj_aload_n (pc2 := 61) dX7_see_60 rfl rfl rfl ?_
          refine xj_getI (pc2 := 64) (kz := 11) fok_X7_125 dX7_see_61 rfl rfl rfl (by decide) rfl (by first | assumption | rfl) ?_
          refine xj_iload_n (pc2 := 65) dX7_see_64 rfl rfl rfl ?_
          refine xj_iast (pc2 := 66) dX7_see_65 rfl rfl (by omega) (by omega) ?_
          refine xj_aload_n (pc2 := 67) dX7_see_66 rfl rfl rfl ?_
          refine xj_getRn (pc2 := 70) (c2 := 159) fok_X7_34 dX7_see_67 rfl rfl rfl rfl rfl ?_
          refine xj_aload_n (pc2 := 71) dX7_see_70 rfl rfl rfl ?_
          refine xj_getI (pc2 := 74) (kz := 11) fok_X7_125 dX7_see_71 rfl rfl rfl (by decide) rfl (by first | assumption | rfl) ?_
          refine xj_iload_n (pc2 := 75) dX7_see_74 rfl rfl rfl ?_
          refine xj_iast (pc2 := 76) dX7_see_75 rfl rfl (by omega) (by omega) ?_
          refine xj_aload_n (pc2 := 77) dX7_see_76 rfl rfl rfl ?_
          refine xj_dup (pc2 := 78) dX7_see_77 rfl rfl ?_
          refine xj_getI (pc2 := 81) (kz := 11) fok_X7_125 dX7_see_78 rfl rfl rfl (by decide) rfl (by first | assumption | rfl) ?_
          refine xj_iconst (pc2 := 82) dX7_see_81 rfl ?_
          refine xj_iadd (pc2 := 83) dX7_see_82 rfl ?_
          refine xj_putI (pc2 := 86) (kz := 11) fok_X7_125 dX7_see_83 rfl rfl rfl rfl rfl ?_
          refine xj_aload_n (pc2 := 87) dX7_see_86 rfl rfl rfl ?_
          refine xj_getI (pc2 := 90) (kz := 11) fok_X7_125 dX7_see_87 rfl rfl rfl (by decide) rfl (hset_eq _ _ _ _) ?_
          refine xj_iret dX7_see_90 rfl ?_
          exact h1 (by omega) _ (KM_shop hK (RM_see hM (by omega)) rfl rfl (fun _ => rfl) (fun c k q1 q2 => by
            rw [show ∀ (a : Hp) (x : Int), hset a 9 11 x c k = a c k from fun a x => by unfold hset; exact if_neg (by omega)]
            rw [hset_nc (by omega), hset_nc (by omega), hset_nc (by omega)])) (fun c k q1 q2 => by rw [hset_nc (by omega), hset_nc (by omega), hset_nc (by omega), hset_nc (by omega)])
        · -- 43
          refine xj_bipush (pc2 := 45) dX7_see_43 rfl (by decide) ?_
          refine xj_iret dX7_see_45 rfl ?_
          exact q_eq (by (repeat' split) <;> omega) (h0 (by omega))
      · -- X7_within = 0
        intro c_25
        refine xj_if_ne (pc2 := 31) (tgt := 34) dX7_see_28 rfl rfl (by omega) (fun c_28 => absurd c_28 (by decide)) (fun c_28 => ?_)
        refine xj_bipush (pc2 := 33) dX7_see_31 rfl (by decide) ?_
        refine xj_iret dX7_see_33 rfl ?_
        exact q_eq (by (repeat' split) <;> omega) (h0 (by omega))
    · -- X7_within = 0
      intro c_15
      refine xj_if_eq (pc2 := 21) (tgt := 31) dX7_see_18 rfl rfl (by omega) (fun c_18 => ?_) (fun c_18 => absurd c_18 (by decide))
      refine xj_bipush (pc2 := 33) dX7_see_31 rfl (by decide) ?_
      refine xj_iret dX7_see_33 rfl ?_
      exact q_eq (by (repeat' split) <;> omega) (h0 (by omega))
  · -- X7_isGlove = 0
    intro c_2
    refine xj_if_ne (pc2 := 8) (tgt := 11) dX7_see_5 rfl rfl (by omega) (fun c_5 => absurd c_5 (by decide)) (fun c_5 => ?_)
    refine xj_bipush (pc2 := 10) dX7_see_8 rfl (by decide) ?_
    refine xj_iret dX7_see_10 rfl ?_
    exact q_eq (by (repeat' split) <;> omega) (h0 (by omega))
theorem c_X7_forget {S I : Sh} {len : Int} {pg : Int → Int} {im tr td : Int} {h : Hp} {Q : Int → Hp → Prop} (hK : KM S I len pg im tr td h) (h1 : ∀ h', KM (hset S 6 3 0) I len pg im tr td h' → FrM h h' → Q (S 6 3) h') : CJ 0 kX7_forget [.ref 9] h Q := by
  have hM := hK.1
  obtain ⟨⟨hn, hw, hh, hs⟩, mG, mN, mE⟩ := id hM
  refine cj_of (lo := [some (.ref 9), none]) mok_X7_forget (fun _ => rfl) (fun _ => Nat.le_of_ble_eq_true rfl) ?_
  refine xj_aload_n (pc2 := 1) dX7_forget_0 rfl rfl rfl ?_
  refine xj_getI (pc2 := 4) (kz := 11) fok_X7_125 dX7_forget_1 rfl rfl rfl (by decide) rfl (by first | assumption | rfl) ?_
  refine xj_istore1 (pc2 := 5) dX7_forget_4 rfl rfl (by decide) rfl ?_
  refine xj_aload_n (pc2 := 6) dX7_forget_5 rfl rfl rfl ?_
  refine xj_iconst (pc2 := 7) dX7_forget_6 rfl ?_
  refine xj_putI (pc2 := 10) (kz := 11) fok_X7_125 dX7_forget_7 rfl rfl rfl rfl rfl ?_
  refine xj_iload_n (pc2 := 11) dX7_forget_10 rfl rfl rfl ?_
  refine xj_iret dX7_forget_11 rfl ?_
  exact h1 _ (KM_shop hK (RM_forget hM) rfl rfl (fun _ => rfl) (fun c k q1 q2 => by unfold hset; exact if_neg (by omega))) (fun c k q1 q2 => by rw [hset_nc (by omega)])
/-- a change of the page alone -/
theorem KM_page {S I : Sh} {len len' : Int} {pg pg' : Int → Int} {im tr td : Int} {h h' : Hp} (hK : KM S I len pg im tr td h) (hp : h' 9 15 = len' ∧ (0 ≤ len' ∧ len' ≤ 26) ∧ ∀ i, 0 ≤ i → i < len' → h' 161 i = pg' i ∧ 32 ≤ pg' i ∧ pg' i ≤ 126) (e : ∀ c k, c ≠ 161 → (c ≠ 9 ∨ k ≠ 15) → h' c k = h c k) : KM S I len' pg' im tr td h' := by
  have hK2 : KM S I len pg im tr td (fun c k => if c = 161 ∨ (c = 9 ∧ k = 15) then h c k else h' c k) := KM_eq hK (fun c k _ => by
    by_cases q : c = 161 ∨ (c = 9 ∧ k = 15)
    · rw [if_pos q]
    · rw [if_neg q]; exact e c k (by omega) (by omega))
  obtain ⟨k1, k2, k3, k4⟩ := hK2
  exact ⟨k1, k2, hp, k4⟩
theorem c_X7_blank {S I : Sh} {len : Int} {pg : Int → Int} {im tr td : Int} {h : Hp} {Q : Int → Hp → Prop} (hK : KM S I len pg im tr td h) (hq : ∀ h', KM S I 0 pg im tr td h' → FrM h h' → Q len h') : CJ 0 kX7_blank [.ref 9] h Q := by
  obtain ⟨hl, hlr, hpg⟩ := id hK.2.2.1
  refine cj_of (lo := [some (.ref 9), none]) mok_X7_blank (fun _ => rfl) (fun _ => Nat.le_of_ble_eq_true rfl) ?_
  refine xj_aload_n (pc2 := 1) dX7_blank_0 rfl rfl rfl ?_
  refine xj_getI (pc2 := 4) (kz := 15) fok_X7_81 dX7_blank_1 rfl rfl rfl (by decide) rfl (by first | assumption | rfl) ?_
  refine xj_istore1 (pc2 := 5) dX7_blank_4 rfl rfl (by decide) rfl ?_
  refine xj_aload_n (pc2 := 6) dX7_blank_5 rfl rfl rfl ?_
  refine xj_iconst (pc2 := 7) dX7_blank_6 rfl ?_
  refine xj_putI (pc2 := 10) (kz := 15) fok_X7_81 dX7_blank_7 rfl rfl rfl rfl rfl ?_
  refine xj_iload_n (pc2 := 11) dX7_blank_10 rfl rfl rfl ?_
  refine xj_iret dX7_blank_11 rfl ?_
  exact hq _ (KM_page hK ⟨hset_eq _ _ _ _, by decide, fun i a b => by exfalso; omega⟩ (fun c k q1 q2 => by unfold hset; exact if_neg (by omega))) (fun c k q1 q2 => hset_nc (by omega))
theorem c_X7_letter {S I : Sh} {len c : Int} {pg : Int → Int} {im tr td : Int} {h : Hp} {Q : Int → Hp → Prop} (hK : KM S I len pg im tr td h) (hc0 : -2147483648 ≤ c ∧ c ≤ 2147483647) (hq : ∀ h', KM S I (letL len c) (letP len c pg) im tr td h' → FrM h h' → Q (letV len c) h') : CJ 1 kX7_letter [.ref 9, vi c] h Q := by
  obtain ⟨hl, hlr, hpg⟩ := id hK.2.2.1
  unfold letL letP letV at hq
  refine cj_of (lo := [some (.ref 9), some (vi c)]) mok_X7_letter (fun _ => rfl) (fun _ => Nat.le_of_ble_eq_true rfl) ?_
  refine xj_iload_n (pc2 := 1) dX7_letter_0 rfl rfl rfl ?_
  refine xj_bipush (pc2 := 3) dX7_letter_1 rfl (by decide) ?_
  refine xj_bipush (pc2 := 5) dX7_letter_3 rfl (by decide) ?_
  refine xj_S3I (pc2 := 8) (d2 := 0) mok_X7_within ml_X7_77 sta_yX7_within dX7_letter_5 rfl rfl (by decide) (by decide) (Nat.le_of_ble_eq_true rfl) (fun _ => rfl) ?_
  refine c_X7_within (by omega) (by omega) (by omega) ?_ ?_
  · -- X7_within = 1
    intro c_5
    refine xj_if_ne (pc2 := 11) (tgt := 14) dX7_letter_8 rfl rfl (by omega) (fun c_8 => ?_) (fun c_8 => absurd c_8 (by decide))
    refine xj_aload_n (pc2 := 15) dX7_letter_14 rfl rfl rfl ?_
    refine xj_getI (pc2 := 18) (kz := 15) fok_X7_81 dX7_letter_15 rfl rfl rfl (by decide) rfl (by first | assumption | rfl) ?_
    refine xj_bipush (pc2 := 20) dX7_letter_18 rfl (by decide) ?_
    refine xj_cmp_ne (pc2 := 23) (tgt := 26) dX7_letter_20 rfl rfl (by omega) (by omega) (fun c_20 => ?_) (fun c_20 => ?_)
    · -- 26
      refine xj_aload_n (pc2 := 27) dX7_letter_26 rfl rfl rfl ?_
      refine xj_getRn (pc2 := 30) (c2 := 161) fok_X7_37 dX7_letter_27 rfl rfl rfl rfl rfl ?_
      refine xj_aload_n (pc2 := 31) dX7_letter_30 rfl rfl rfl ?_
      refine xj_getI (pc2 := 34) (kz := 15) fok_X7_81 dX7_letter_31 rfl rfl rfl (by decide) rfl (by first | assumption | rfl) ?_
      refine xj_iload_n (pc2 := 35) dX7_letter_34 rfl rfl rfl ?_
      refine xj_i2b (pc2 := 36) dX7_letter_35 rfl (by omega) ?_
      refine xj_bast (pc2 := 37) dX7_letter_36 rfl rfl (by omega) (by omega) (by omega) ?_
      refine xj_aload_n (pc2 := 38) dX7_letter_37 rfl rfl rfl ?_
      refine xj_dup (pc2 := 39) dX7_letter_38 rfl rfl ?_
      refine xj_getI (pc2 := 42) (kz := 15) fok_X7_81 dX7_letter_39 rfl rfl rfl (by decide) rfl (by first | assumption | rfl) ?_
      refine xj_iconst (pc2 := 43) dX7_letter_42 rfl ?_
      refine xj_iadd (pc2 := 44) dX7_letter_43 rfl ?_
      refine xj_putI (pc2 := 47) (kz := 15) fok_X7_81 dX7_letter_44 rfl rfl rfl rfl rfl ?_
      refine xj_aload_n (pc2 := 48) dX7_letter_47 rfl rfl rfl ?_
      refine xj_getI (pc2 := 51) (kz := 15) fok_X7_81 dX7_letter_48 rfl rfl rfl (by decide) rfl (hset_eq _ _ _ _) ?_
      refine xj_iret dX7_letter_51 rfl ?_
      rw [if_pos ⟨c_5, by omega⟩, if_pos ⟨c_5, by omega⟩, if_neg (fun q => q c_5), if_pos (by omega)] at hq
      refine hq _ (KM_page hK ⟨hset_eq _ _ _ _, by omega, fun i a b => ?_⟩ (fun c' k q1 q2 => by rw [show ∀ (a : Hp) (x : Int), hset a 9 15 x c' k = a c' k from fun a x => by unfold hset; exact if_neg (by omega)]; exact hset_nc q1)) (fun c' k q1 q2 => by rw [hset_nc q2, hset_nc (by omega)])
      rw [hset_nc (by decide)]
      by_cases e : i = len
      · subst e
        rw [hset_eq, if_pos rfl]
        exact ⟨rfl, c_5.1, c_5.2⟩
      · rw [hset_nk e, if_neg e]
        exact hpg i a (by omega)
    · -- 23
      refine xj_bipush (pc2 := 25) dX7_letter_23 rfl (by decide) ?_
      refine xj_iret dX7_letter_25 rfl ?_
      rw [if_neg (fun q => by omega), if_neg (fun q => by omega), if_neg (fun q => q c_5), if_neg (by omega)] at hq
      exact hq h hK FrM_rf
  · -- X7_within = 0
    intro c_5
    refine xj_if_ne (pc2 := 11) (tgt := 14) dX7_letter_8 rfl rfl (by omega) (fun c_8 => absurd c_8 (by decide)) (fun c_8 => ?_)
    refine xj_bipush (pc2 := 13) dX7_letter_11 rfl (by decide) ?_
    refine xj_iret dX7_letter_13 rfl ?_
    rw [if_neg (fun q => c_5 q.1), if_neg (fun q => c_5 q.1), if_pos c_5] at hq
    exact hq h hK FrM_rf
