/-! BOXES: the whole search -/
def rid (n : Nat) : Rw := fun i => if i < n then i else 0
theorem mxA_rid {n : Nat} : ∀ g, g ≤ n → mxA g (rid n) = g
  | 0, _ => rfl
  | g + 1, h => by
    show max (mxA g (rid n)) (rid n g + 1) = g + 1
    rw [mxA_rid g (by omega)]
    unfold rid
    rw [if_pos (by omega)]
    omega
theorem lfB_le {S : Sh} {r : Rw} {a : Ab} {m : Int} (h : a.1 ≤ m) : (lfB S r a).1 ≤ m := by
  unfold lfB
  split
  · rename_i q; dsimp only; omega
  · exact h
theorem foldB_le {S : Sh} {m : Int} : ∀ (l : List Rw) (a : Ab), a.1 ≤ m → (l.foldl (fun a r => lfB S r a) a).1 ≤ m
  | [], a, h => h
  | r :: l, a, h => foldB_le l (lfB S r a) (lfB_le h)
theorem foldB_hit {S : Sh} {s : Rw} (hq : qtR S s (nG S) = true) : ∀ (l : List Rw) (a : Ab), s ∈ l → (l.foldl (fun a r => lfB S r a) a).1 ≤ mxA (nG S) s
  | [], a, h => by cases h
  | r :: l, a, h => by
    rcases List.mem_cons.mp h with e | e
    · subst e
      refine foldB_le l (lfB S s a) ?_
      unfold lfB
      by_cases c : (mxA (nG S) s : Int) < a.1
      · rw [if_pos ⟨c, hq⟩]; exact Int.le_refl _
      · rw [if_neg (fun q => c q.1)]; omega
    · exact foldB_hit hq l (lfB S r a) e
theorem qtR_rid {S : Sh} {n : Nat} : qtR S (rid n) n = true := qtR_iff.mpr (fun g e hg he hr => by unfold rid at hr; rw [if_pos (by omega), if_pos (by omega)] at hr; omega)
theorem rid_mem (n : Nat) : rid n ∈ Rk n mxA n r0 := by
  have h := Rk_mem (n := n) limB_P n (rid n) (Nat.le_refl _) (fun i _ hi => by rw [mxA_rid i (by omega)]; unfold rid; rw [if_pos hi]; exact Nat.le_refl _)
  have : zr n n (rid n) = r0 := by
    funext i
    unfold zr rid r0
    by_cases e : i < n
    · rw [if_pos (by omega)]
    · rw [if_neg (by omega), if_neg e]
  rwa [this] at h
theorem bA_list (S : Sh) : bA S = (Rk (nG S) mxA (nG S) r0).foldl (fun a r => lfB S r a) (7, r0) := by
  unfold bA
  rw [full_Rk limB_P (nG S) r0 _ (Nat.le_refl _), zr_r0]
theorem bA_rg {S : Sh} (hn : nG S ≤ 6) : (bA S).1 ≤ 6 := by
  rw [bA_list]
  have h := foldB_hit (S := S) qtR_rid (Rk (nG S) mxA (nG S) r0) (7, r0) (rid_mem (nG S))
  rw [mxA_rid _ (Nat.le_refl _)] at h
  omega
theorem Rk_lim {n : Nat} {lim : Nat → Rw → Nat} (hL : LimP lim) : ∀ (k : Nat) (r : Rw), k ≤ n → (∀ i, i < n → r i ≤ lim i r) → ∀ s, s ∈ Rk n lim k r → ∀ i, i < n → s i ≤ lim i s
  | 0, r, _, h, s, hs => by
    have : s = r := by simpa [Rk] using hs
    rw [this]
    exact h
  | k + 1, r, hk, h, s, hs => by
    rcases List.mem_append.mp (show s ∈ Rk n lim k r ++ _ from hs) with q | q
    · exact Rk_lim hL k r (by omega) h s q
    · obtain ⟨j, hj, hm⟩ := List.mem_flatMap.mp q
      have hj2 := List.mem_range.mp hj
      refine Rk_lim hL k _ (by omega) (fun i hi => ?_) s hm
      have hpre : ∀ i, i ≤ n - (k + 1) → lim i (zr n k (ups r (n - (k + 1)) (r (n - (k + 1)) + 1 + j))) = lim i r := fun i hi => hL _ _ _ (fun i' hi' => by
        unfold zr ups
        rw [if_neg (by omega), if_neg (by omega)])
      by_cases e1 : i < n - (k + 1)
      · rw [hpre i (by omega)]
        have : zr n k (ups r (n - (k + 1)) (r (n - (k + 1)) + 1 + j)) i = r i := by
          unfold zr ups
          rw [if_neg (by omega), if_neg (by omega)]
        rw [this]
        exact h i hi
      · by_cases e2 : i = n - (k + 1)
        · rw [hpre i (by omega)]
          have : zr n k (ups r (n - (k + 1)) (r (n - (k + 1)) + 1 + j)) i = r (n - (k + 1)) + 1 + j := by
            unfold zr ups
            rw [if_neg (by omega), if_pos e2]
          rw [this, e2]
          omega
        · have : zr n k (ups r (n - (k + 1)) (r (n - (k + 1)) + 1 + j)) i = 0 := by
            unfold zr
            rw [if_pos (by omega)]
          rw [this]
          exact Nat.zero_le _
theorem mxA_le {r : Rw} {n : Nat} (h : ∀ i, i < n → r i ≤ mxA i r) : ∀ g, g ≤ n → mxA g r ≤ g
  | 0, _ => Nat.le_refl _
  | g + 1, hg => by
    have := mxA_le h g (by omega)
    have := h g (by omega)
    show max (mxA g r) (r g + 1) ≤ g + 1
    omega
/-- what the search begins with is no matter -/
theorem foldB_start {S : Sh} {m1 m2 : Int} {x y : Rw} (h1 : 6 < m1) (h2 : 6 < m2) : ∀ (l : List Rw), (∀ r ∈ l, mxA (nG S) r ≤ 6) → (∃ s ∈ l, qtR S s (nG S) = true) → l.foldl (fun a r => lfB S r a) (m1, x) = l.foldl (fun a r => lfB S r a) (m2, y)
  | [], _, h => by obtain ⟨s, hs, _⟩ := h; cases hs
  | r :: l, hm, h => by
    rw [List.foldl_cons, List.foldl_cons]
    have hr := hm r List.mem_cons_self
    by_cases hq : qtR S r (nG S) = true
    · have e : ∀ (m : Int) (z : Rw), 6 < m → lfB S r (m, z) = ((mxA (nG S) r : Int), r) := fun m z hz => by
        unfold lfB
        rw [if_pos ⟨by dsimp only; omega, hq⟩]
      rw [e m1 x h1, e m2 y h2]
    · have e : ∀ (m : Int) (z : Rw), lfB S r (m, z) = (m, z) := fun m z => by
        unfold lfB
        rw [if_neg (fun q => hq q.2)]
      rw [e, e]
      refine foldB_start h1 h2 l (fun r' hr' => hm r' (List.mem_cons_of_mem _ hr')) ?_
      obtain ⟨s, hs, hsq⟩ := h
      rcases List.mem_cons.mp hs with e2 | e2
      · subst e2; exact absurd hsq hq
      · exact ⟨s, e2, hsq⟩
theorem bA_far {S : Sh} (hn : nG S ≤ 6) {m : Int} {y : Rw} (hm : 6 < m) : bA S = (Rk (nG S) mxA (nG S) r0).foldl (fun a r => lfB S r a) (m, y) := by
  rw [bA_list]
  refine foldB_start (by decide) hm _ (fun r hr => ?_) ⟨_, rid_mem _, qtR_rid⟩
  have h := Rk_lim limB_P (nG S) r0 (Nat.le_refl _) (fun i _ => Nat.zero_le _) r hr
  have := mxA_le h (nG S) (Nat.le_refl _)
  omega
theorem c_X3_find {S : Sh} {h : Hp} {Q : Int → Hp → Prop} (hR : RC 2 S h) (hW : WF S) (hq : ∀ h', (h' 6 4 = (bA S).1 ∧ ∀ i : Nat, i < 6 → h' 100 i = if i < nG S then ((bA S).2 i : Int) else -1) → (∀ c k, c ≠ 6 → c ≠ 97 → c ≠ 98 → c ≠ 99 → c ≠ 100 → h' c k = h c k) → Q 0 h') : CJ (1 + 7) kX3_find [.ref 6, .ref 2] h Q := by
  have hnn := wf_n hW
  have hng := nG_eq hW
  have hRk : ∀ h' : Hp, (∀ c k, c ≠ 6 → c ≠ 97 → c ≠ 98 → c ≠ 99 → c ≠ 100 → h' c k = h c k) → RC 2 S h' := fun h' hf => RC_eq hR (fun k => hf 2 k (by decide) (by decide) (by decide) (by decide) (by decide)) (fun i k hi => hf _ k (by unfold ch; omega) (by unfold ch; omega) (by unfold ch; omega) (by unfold ch; omega) (by unfold ch; omega))
  refine cj_of (lo := [some (.ref 6), some (.ref 2), none]) mok_X3_find (fun _ => rfl) (fun _ => Nat.le_of_ble_eq_true rfl) ?_
  refine xj_aload_n (pc2 := 1) dX3_find_0 rfl rfl rfl ?_
  refine xj_getRn (pc2 := 4) (c2 := 98) fok_X3_15 dX3_find_1 rfl rfl rfl rfl rfl ?_
  refine xj_iconst (pc2 := 5) dX3_find_4 rfl ?_
  refine xj_S2V (pc2 := 8) (d2 := 0) mok_J7_fill_53178 ml_X3_24 sta_yJ7_fill_53178 dX3_find_5 rfl rfl (by decide) (by decide) (Nat.le_of_ble_eq_true rfl) (fun _ => rfl) ?_
  refine c_fill rfl (by decide) ?_
  refine xj_aload_n (pc2 := 9) dX3_find_8 rfl rfl rfl ?_
  refine xj_getRn (pc2 := 12) (c2 := 99) fok_X3_18 dX3_find_9 rfl rfl rfl rfl rfl ?_
  refine xj_iconst (pc2 := 13) dX3_find_12 rfl ?_
  refine xj_S2V (pc2 := 16) (d2 := 0) mok_J7_fill_53178 ml_X3_24 sta_yJ7_fill_53178 dX3_find_13 rfl rfl (by decide) (by decide) (Nat.le_of_ble_eq_true rfl) (fun _ => rfl) ?_
  refine c_fill rfl (by decide) ?_
  refine xj_aload_n (pc2 := 17) dX3_find_16 rfl rfl rfl ?_
  refine xj_bipush (pc2 := 19) dX3_find_17 rfl (by decide) ?_
  refine xj_putI (pc2 := 22) (kz := 4) fok_X3_30 dX3_find_19 rfl rfl rfl rfl rfl ?_
  refine xj_iconst (pc2 := 23) dX3_find_22 rfl ?_
  refine xj_istore2 (pc2 := 24) dX3_find_23 rfl rfl (by decide) rfl ?_
  refine down (P := fun j => ∀ h' : Hp, (∀ i : Nat, i < j → h' 97 i = bsum (quarP S i) (nG S)) → (∀ c k, c ≠ 97 → h' c k = hset (hfill (hfill h 98 ((6 : Nat) : Int) 0) 99 ((6 : Nat) : Int) (-1)) 6 4 7 c k) → XJ none (1 + 7) kX3_find h' 24 [some (.ref 6), some (.ref 2), some (vi j)] [] Q) (n := nG S) ?_ ?_ _ (fun i hi => by omega) (fun _ _ _ => rfl)
  · intro h' f1 f2
    have f3 : ∀ c k, c ≠ 6 → c ≠ 97 → c ≠ 98 → c ≠ 99 → c ≠ 100 → h' c k = h c k := fun c k a1 a2 a3 a4 a5 => by
      rw [f2 c k a2]
      simp [hset, hfill, a1, a3, a4]
    have hn' : h' 2 11 = (nG S : Int) := (hRk h' f3).1.1.trans hng.symm
    have H0 : HB S 0 r0 (7, r0) h' := by
      refine ⟨⟨fun i hi => by omega, fun i h1 h2 => ?_⟩, fun v hv => ?_, f1, ?_, fun h0 => by exfalso; revert h0; decide, by decide⟩
      · rw [f2 _ _ (by decide)]
        have i6 : (i : Int) < 6 := by omega
        simp [hset, hfill, i6]
      · rw [f2 _ _ (by decide)]
        have v6 : (v : Int) < 6 := by omega
        simp [hset, hfill, v6, inB, bsum]
      · rw [f2 _ _ (by decide)]
        simp [hset]
    refine xj_iload_n (pc2 := 25) dX3_find_24 rfl rfl rfl ?_
    refine xj_aload_n (pc2 := 26) dX3_find_25 rfl rfl rfl ?_
    refine xj_getI (pc2 := 29) (kz := 11) fok_X3_34 dX3_find_26 rfl rfl rfl (by decide) rfl (by first | assumption | rfl) ?_
    refine xj_cmp_ge (pc2 := 32) (tgt := 51) dX3_find_29 rfl rfl (by omega) (by omega) (fun c_29 => ?_) (fun c_29 => by exfalso; omega)
    refine xj_aload_n (pc2 := 52) dX3_find_51 rfl rfl rfl ?_
    refine xj_aload_n (pc2 := 53) dX3_find_52 rfl rfl rfl ?_
    refine xj_getI (pc2 := 56) (kz := 11) fok_X3_34 dX3_find_53 rfl rfl rfl (by decide) rfl (by first | assumption | rfl) ?_
    refine xj_iconst (pc2 := 57) dX3_find_56 rfl ?_
    refine xj_iconst (pc2 := 58) dX3_find_57 rfl ?_
    refine xj_S4V (pc2 := 61) (d2 := (1 + nG S)) mok_X3_pack ml_X3_46 sta_yX3_pack dX3_find_58 rfl rfl (by omega) (by decide) (Nat.le_of_ble_eq_true rfl) (fun _ => rfl) ?_
    refine c_X3_pack hW (nG S) 0 r0 (7, r0) _ _ (by omega) H0 rfl (Nat.le_refl _) ?_
    intro h4 H4 F4
    rw [show full (nG S) mxA (lfB S) (nG S) r0 (7, r0) = bA S from rfl] at H4
    refine xj_vret dX3_find_61 rfl ?_
    exact hq _ ⟨H4.2.2.2.1, H4.2.2.2.2.1 (bA_rg (by omega))⟩ (fun c k a1 a2 a3 a4 a5 => (F4 c k a1 a3 a4 a5).trans (f3 c k a1 a2 a3 a4 a5))
  · intro j hj ih h' f1 f2
    have f3 : ∀ c k, c ≠ 6 → c ≠ 97 → c ≠ 98 → c ≠ 99 → c ≠ 100 → h' c k = h c k := fun c k a1 a2 a3 a4 a5 => by
      rw [f2 c k a2]
      simp [hset, hfill, a1, a3, a4]
    have hR := hRk h' f3
    have hn' : h' 2 11 = (nG S : Int) := hR.1.1.trans hng.symm
    refine xj_iload_n (pc2 := 25) dX3_find_24 rfl rfl rfl ?_
    refine xj_aload_n (pc2 := 26) dX3_find_25 rfl rfl rfl ?_
    refine xj_getI (pc2 := 29) (kz := 11) fok_X3_34 dX3_find_26 rfl rfl rfl (by decide) rfl (by first | assumption | rfl) ?_
    refine xj_cmp_ge (pc2 := 32) (tgt := 51) dX3_find_29 rfl rfl (by omega) (by omega) (fun c_29 => by exfalso; omega) (fun c_29 => ?_)
    refine xj_aload_n (pc2 := 33) dX3_find_32 rfl rfl rfl ?_
    refine xj_getRn (pc2 := 36) (c2 := 97) fok_X3_9 dX3_find_33 rfl rfl rfl rfl rfl ?_
    refine xj_iload_n (pc2 := 37) dX3_find_36 rfl rfl rfl ?_
    refine xj_aload_n (pc2 := 38) dX3_find_37 rfl rfl rfl ?_
    refine xj_iload_n (pc2 := 39) dX3_find_38 rfl rfl rfl ?_
    refine xj_V1I (pc2 := 42) (d2 := 2) mok_X5_quarrels ml_X3_39 ima_yX5_quarrels sel_yX5_quarrels rfl rfl dX3_find_39 rfl rfl (by decide) (by decide) (Nat.le_of_ble_eq_true rfl) (fun _ => rfl) ?_
    refine c_X5_quarrels (Or.inl rfl) hR hW (by omega) ?_
    refine xj_N3V (pc2 := 45) (d2 := 0) mok_X6_put mn_X3_42 sta_yX6_put dX3_find_42 rfl rfl (by decide) (by decide) (Nat.le_of_ble_eq_true rfl) (fun _ => rfl) ?_
    refine c_X6_put rfl (by omega) (by decide) ?_
    refine xj_iinc2 (pc2 := 48) dX3_find_45 rfl (by decide) rfl ?_
    refine xj_goto (tgt := 24) dX3_find_48 rfl ?_
    refine ih _ (fun i hi => ?_) (fun c k hc => (hset_nc hc).trans (f2 c k hc))
    by_cases e : i = j
    · subst e; exact hset_eq _ _ _ _
    · rw [hset_nk (by omega)]; exact f1 i (by omega)
