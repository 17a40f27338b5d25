/-! the class's own calls: dress, boxes, odds, teas -/
theorem KC_far {S I : Sh} {len : Int} {pg : Int → Int} {im tr td : Int} {h h' : Hp} (hK : KC S I len pg im tr td h) (e : ∀ c k, LC c → h' c k = h c k) : KC S I len pg im tr td h' := KC_eq hK e
/-- a tea: the shop, the seed, how many butted so far -/
abbrev Te : Type := Sh × Int × Int
def teF : Nat → Te → Te := fun _ a => (passS (cbd a.1 a.2.1).1, (cbd a.1 a.2.1).2, a.2.2 + cntz (doP (passS (cbd a.1 a.2.1).1) 1) (nW (passS (cbd a.1 a.2.1).1)))
def teZ (S : Sh) (s : Int) (k : Nat) : Te := it teF (S, s, 0) k
def teasZ (S : Sh) (k s x : Int) : Int := if ¬ ((1 ≤ k ∧ k ≤ 60) ∧ 0 ≤ s ∧ (0 ≤ x ∧ x ≤ 2)) then -102 else if ¬ (0 < S 6 0) then -103 else if x = 0 then (teZ S s k.toNat).2.2 else if x = 1 then cntz (onP (teZ S s k.toNat).1) (nG (teZ S s k.toNat).1) else (teZ S s k.toNat).2.1
theorem cbd_n (S : Sh) (s : Int) (k : Int) : (cbd S s).1 6 k = S 6 k := by
  unfold cbd
  split
  · dsimp only
    split
    · exact hset_nc (show (6 : Nat) ≠ 3 by decide)
    · rfl
  · show hset S 3 (drw s (S 6 0)) (-1) 6 k = S 6 k
    exact hset_nc (show (6 : Nat) ≠ 3 by decide)
theorem cbd_s (S : Sh) (s : Int) : 0 ≤ (cbd S s).2 ∧ (cbd S s).2 ≤ 2147483647 := by
  have h1 := sdz_rg s
  have h2 := sdz_rg (sdz (sdz s))
  unfold cbd
  split <;> dsimp only <;> omega
theorem teZ_ok {S : Sh} (hW : WF S) (hn : 0 < S 6 0) {s : Int} (hs : 0 ≤ s ∧ s ≤ 2147483647) : ∀ k, WF (teZ S s k).1 ∧ (teZ S s k).1 6 0 = S 6 0 ∧ (teZ S s k).1 6 1 = S 6 1 ∧ (0 ≤ (teZ S s k).2.1 ∧ (teZ S s k).2.1 ≤ 2147483647) ∧ (0 ≤ (teZ S s k).2.2 ∧ (teZ S s k).2.2 ≤ 3 * k) := by
  intro k
  induction k with
  | zero => exact ⟨hW, rfl, rfl, hs, by show (0 : Int) ≤ 0 ∧ (0 : Int) ≤ 3 * (0 : Nat); decide⟩
  | succ k ih =>
    obtain ⟨i1, i2, i3, i4, i5⟩ := ih
    have hw1 := cbd_wf i1 (by rw [i2]; exact hn) (teZ S s k).2.1
    have hw2 := WF_pass hw1
    have e0 : (passS (cbd (teZ S s k).1 (teZ S s k).2.1).1) 6 0 = S 6 0 := by rw [passS_t (by decide) (by decide), cbd_n, i2]
    have e1 : (passS (cbd (teZ S s k).1 (teZ S s k).2.1).1) 6 1 = S 6 1 := by rw [passS_t (by decide) (by decide), cbd_n, i3]
    have hc := cntz_rg (q := doP (passS (cbd (teZ S s k).1 (teZ S s k).2.1).1) 1) (nW (passS (cbd (teZ S s k).1 (teZ S s k).2.1).1))
    have hnw := nW_eq hw2
    have hnn := wf_n hw2
    refine ⟨hw2, e0, e1, cbd_s _ _, ?_⟩
    show 0 ≤ (teZ S s k).2.2 + cntz (doP (passS (cbd (teZ S s k).1 (teZ S s k).2.1).1) 1) (nW (passS (cbd (teZ S s k).1 (teZ S s k).2.1).1)) ∧ (teZ S s k).2.2 + cntz (doP (passS (cbd (teZ S s k).1 (teZ S s k).2.1).1) 1) (nW (passS (cbd (teZ S s k).1 (teZ S s k).2.1).1)) ≤ 3 * ((k + 1 : Nat) : Int)
    omega
theorem c_X6_teas {S I : Sh} {len k s x : Int} {pg : Int → Int} {im tr td : Int} {h : Hp} {Q : Int → Hp → Prop} (hK : KC S I len pg im tr td h) (hKW : KW S I im tr td) (hk0 : -2147483648 ≤ k ∧ k ≤ 2147483647) (hs0 : -2147483648 ≤ s ∧ s ≤ 2147483647) (hx : -2147483648 ≤ x ∧ x ≤ 2147483647) (hq : ∀ h', KC S I len pg im tr td h' → FrC h h' → Q (teasZ S k s x) h') : CJ 5 kX6_teas [.ref 0, vi k, vi s, vi x] h Q := by
  obtain ⟨hR, hI, hP, hk8, hk9, hk10⟩ := id hK
  have hW := hKW.1
  obtain ⟨⟨hn, hw, hh, hs⟩, hG, hN, hE⟩ := id hR
  have hnn := wf_n hW
  have key : ∀ h2 : Hp, (1 ≤ k ∧ k ≤ 60) → 0 ≤ s → (0 ≤ x ∧ x ≤ 2) → 0 < S 6 0 → RC 4 S h2 → h2 8 0 = s → (∀ c j, LC c ∨ c = 0 ∨ c = 9 ∨ 145 ≤ c → h2 c j = h c j) → XJ none 5 kX6_teas h2 61 [some (.ref 0), some (vi k), some (vi s), some (vi x), some (vi 0), some (vi 0)] [] Q := by
    intro h2 c1 c2 c3 c4 d1 d2 d3
    obtain ⟨kn, hkn⟩ := Int.eq_ofNat_of_zero_le (show 0 ≤ k by omega)
    refine down (P := fun j => ∀ h' : Hp, RC 4 (teZ S s j).1 h' → h' 8 0 = (teZ S s j).2.1 → (∀ c j, LC c ∨ c = 0 ∨ c = 9 ∨ 145 ≤ c → h' c j = h c j) → XJ none 5 kX6_teas h' 61 [some (.ref 0), some (vi k), some (vi s), some (vi x), some (vi (teZ S s j).2.2), some (vi j)] [] Q) (n := kn) ?_ ?_ h2 d1 d2 d3
    · intro h' f1 f2 f3
      obtain ⟨o1, o2, o3, o4, o5⟩ := teZ_ok hW c4 ⟨c2, hs0.2⟩ kn
      have hK2 := KC_eq hK (fun c k hc => f3 c k (Or.inl hc))
      have hF2 : FrC h h' := fun c k hc => f3 c k (Or.inr (Or.inr hc))
      have hR := f1
      have hW := o1
      have ek : k.toNat = kn := by omega
      have hrest : ∀ v, (x = 0 → v = (teZ S s kn).2.2) → (x = 1 → v = cntz (onP (teZ S s kn).1) (nG (teZ S s kn).1)) → (x = 2 → v = (teZ S s kn).2.1) → v = teasZ S k s x := by
        intro v q0 q1 q2
        unfold teasZ
        rw [if_neg (by omega), if_neg (by omega), ek]
        by_cases e0 : x = 0
        · rw [if_pos e0]; exact q0 e0
        · rw [if_neg e0]
          by_cases e1 : x = 1
          · rw [if_pos e1]; exact q1 e1
          · rw [if_neg e1]; exact q2 (by omega)
      refine xj_iload (pc2 := 63) dX6_teas_61 rfl rfl ?_
      refine xj_iload_n (pc2 := 64) dX6_teas_63 rfl rfl rfl ?_
      refine xj_cmp_ge (pc2 := 67) (tgt := 104) dX6_teas_64 rfl rfl (by omega) (by omega) (fun c_64 => ?_) (fun c_64 => by exfalso; omega)
      refine xj_iload_n (pc2 := 105) dX6_teas_104 rfl rfl rfl ?_
      refine tsw_X6_teas_105 (by omega) (fun c_105 => ?_) (fun c_105 => ?_) (fun c_105 => ?_)
      · -- 132
        refine xj_iload (pc2 := 134) dX6_teas_132 rfl rfl ?_
        refine xj_iret dX6_teas_134 rfl ?_
        exact q_eq (hrest _ (fun _ => rfl) (fun q => by exfalso; omega) (fun q => by exfalso; omega)) (hq _ hK2 hF2)
      · -- 135
        refine xj_aload_n (pc2 := 136) dX6_teas_135 rfl rfl rfl ?_
        refine xj_getRn (pc2 := 139) (c2 := 4) fok_X6_26 dX6_teas_136 rfl rfl rfl rfl rfl ?_
        refine xj_V0I (pc2 := 142) (d2 := 2) mok_X5_countOnHands ml_X6_235 ima_yX5_countOnHands sel_yX5_countOnHands rfl rfl dX6_teas_139 rfl rfl (by decide) (by decide) (Nat.le_of_ble_eq_true rfl) (fun _ => rfl) ?_
        refine c_X5_countOnHands (Or.inr (Or.inr rfl)) hR hW ?_
        refine xj_iret dX6_teas_142 rfl ?_
        exact q_eq (hrest _ (fun q => by exfalso; omega) (fun _ => rfl) (fun q => by exfalso; omega)) (hq _ hK2 hF2)
      · -- 143
        refine xj_aload_n (pc2 := 144) dX6_teas_143 rfl rfl rfl ?_
        refine xj_getRn (pc2 := 147) (c2 := 8) fok_X6_53 dX6_teas_144 rfl rfl rfl rfl rfl ?_
        refine xj_getI (pc2 := 150) (kz := 0) fok_X6_225 dX6_teas_147 rfl rfl rfl (by decide) rfl (by first | assumption | rfl) ?_
        refine xj_iret dX6_teas_150 rfl ?_
        exact q_eq (hrest _ (fun q => by exfalso; omega) (fun q => by exfalso; omega) (fun _ => rfl)) (hq _ hK2 hF2)
    · intro j hj ih h' f1 f2 f3
      obtain ⟨o1, o2, o3, o4, o5⟩ := teZ_ok hW c4 ⟨c2, hs0.2⟩ j
      have hws := cbd_wf o1 (by rw [o2]; exact c4) (teZ S s j).2.1
      have hwp := WF_pass hws
      refine xj_iload (pc2 := 63) dX6_teas_61 rfl rfl ?_
      refine xj_iload_n (pc2 := 64) dX6_teas_63 rfl rfl rfl ?_
      refine xj_cmp_ge (pc2 := 67) (tgt := 104) dX6_teas_64 rfl rfl (by omega) (by omega) (fun c_64 => by exfalso; omega) (fun c_64 => ?_)
      refine xj_aload_n (pc2 := 68) dX6_teas_67 rfl rfl rfl ?_
      refine xj_getRn (pc2 := 71) (c2 := 4) fok_X6_26 dX6_teas_68 rfl rfl rfl rfl rfl ?_
      refine xj_aload_n (pc2 := 72) dX6_teas_71 rfl rfl rfl ?_
      refine xj_getRn (pc2 := 75) (c2 := 8) fok_X6_53 dX6_teas_72 rfl rfl rfl rfl rfl ?_
      refine xj_V1V (pc2 := 78) (d2 := 2) mok_X5_changeByDraws ml_X6_228 ima_yX5_changeByDraws sel_yX5_changeByDraws rfl rfl dX6_teas_75 rfl rfl (by decide) (by decide) (Nat.le_of_ble_eq_true rfl) (fun _ => rfl) ?_
      refine c_X5_changeByDraws (Or.inr (Or.inr rfl)) f1 o1 (by rw [o2]; exact c4) f2 (by omega) ?_
      intro h3 q1 q2 q3
      refine xj_aload_n (pc2 := 79) dX6_teas_78 rfl rfl rfl ?_
      refine xj_getRn (pc2 := 82) (c2 := 4) fok_X6_26 dX6_teas_79 rfl rfl rfl rfl rfl ?_
      refine xj_V0V (pc2 := 85) (d2 := 1) mok_X5_passHour ml_X6_173 ima_yX5_passHour sel_yX5_passHour rfl rfl dX6_teas_82 rfl rfl (by decide) (by decide) (Nat.le_of_ble_eq_true rfl) (fun _ => rfl) ?_
      refine c_X5_passHour (Or.inr (Or.inr rfl)) q1 hws ?_
      intro h4 q4 q5
      refine xj_iload (pc2 := 87) dX6_teas_85 rfl rfl ?_
      refine xj_aload_n (pc2 := 88) dX6_teas_87 rfl rfl rfl ?_
      refine xj_getRn (pc2 := 91) (c2 := 4) fok_X6_26 dX6_teas_88 rfl rfl rfl rfl rfl ?_
      refine xj_iconst (pc2 := 92) dX6_teas_91 rfl ?_
      refine xj_V1I (pc2 := 95) (d2 := 4) mok_X5_countDoing ml_X6_232 ima_yX5_countDoing sel_yX5_countDoing rfl rfl dX6_teas_92 rfl rfl (by decide) (by decide) (Nat.le_of_ble_eq_true rfl) (fun _ => rfl) ?_
      refine c_X5_countDoing (Or.inr (Or.inr rfl)) q4 hwp (by omega) ?_
      refine xj_iadd (pc2 := 96) dX6_teas_95 rfl ?_
      refine xj_istore4 (pc2 := 98) dX6_teas_96 rfl (by decide) rfl ?_
      refine xj_iinc5 (pc2 := 101) dX6_teas_98 rfl (by decide) rfl ?_
      refine xj_goto (tgt := 61) dX6_teas_101 rfl ?_
      exact ih h4 q4 ((q5 8 0 (by decide) (by decide)).trans q2) (fun c i hc => ((q5 c i (by unfold LC at hc; omega) (by unfold LC at hc; unfold ch; omega)).trans (q3 c i (by unfold LC at hc; omega) (by unfold LC at hc; unfold ch; omega) (by unfold LC at hc; unfold ch; omega))).trans (f3 c i hc))
  refine cj_of (lo := [some (.ref 0), some (vi k), some (vi s), some (vi x), none, none]) mok_X6_teas (fun _ => rfl) (fun _ => Nat.le_of_ble_eq_true rfl) ?_
  refine xj_iload_n (pc2 := 1) dX6_teas_0 rfl rfl rfl ?_
  refine xj_iconst (pc2 := 2) dX6_teas_1 rfl ?_
  refine xj_bipush (pc2 := 4) dX6_teas_2 rfl (by decide) ?_
  refine xj_S3I (pc2 := 7) (d2 := 0) mok_X6_within ml_X6_57 sta_yX6_within dX6_teas_4 rfl rfl (by decide) (by decide) (Nat.le_of_ble_eq_true rfl) (fun _ => rfl) ?_
  refine c_X6_within (by omega) (by omega) (by omega) ?_ ?_
  · -- X6_within = 1
    intro c_4
    refine xj_if_eq (pc2 := 10) (tgt := 23) dX6_teas_7 rfl rfl (by omega) (fun c_7 => absurd c_7 (by decide)) (fun c_7 => ?_)
    refine xj_iload_n (pc2 := 11) dX6_teas_10 rfl rfl rfl ?_
    refine xj_if_lt (pc2 := 14) (tgt := 23) dX6_teas_11 rfl rfl (by omega) (fun c_11 => ?_) (fun c_11 => ?_)
    · -- 23
      refine xj_bipush (pc2 := 25) dX6_teas_23 rfl (by decide) ?_
      refine xj_iret dX6_teas_25 rfl ?_
      exact q_eq (by unfold teasZ; rw [if_pos (by omega)]) (hq h hK FrC_rf)
    · -- 14
      refine xj_iload_n (pc2 := 15) dX6_teas_14 rfl rfl rfl ?_
      refine xj_iconst (pc2 := 16) dX6_teas_15 rfl ?_
      refine xj_iconst (pc2 := 17) dX6_teas_16 rfl ?_
      refine xj_S3I (pc2 := 20) (d2 := 0) mok_X6_within ml_X6_57 sta_yX6_within dX6_teas_17 rfl rfl (by decide) (by decide) (Nat.le_of_ble_eq_true rfl) (fun _ => rfl) ?_
      refine c_X6_within (by omega) (by omega) (by omega) ?_ ?_
      · -- X6_within = 1
        intro c_17
        refine xj_if_ne (pc2 := 23) (tgt := 26) dX6_teas_20 rfl rfl (by omega) (fun c_20 => ?_) (fun c_20 => absurd c_20 (by decide))
        refine xj_aload_n (pc2 := 27) dX6_teas_26 rfl rfl rfl ?_
        refine xj_V0I (pc2 := 30) (d2 := 0) mok_X6_hasShop ml_X6_167 ima_yX6_hasShop sel_yX6_hasShop rfl rfl dX6_teas_27 rfl rfl (by decide) (by decide) (Nat.le_of_ble_eq_true rfl) (fun _ => rfl) ?_
        refine c_X6_hasShop hn (by omega) ?_ ?_
        · -- X6_hasShop = 1
          intro c_27
          refine xj_if_ne (pc2 := 33) (tgt := 36) dX6_teas_30 rfl rfl (by omega) (fun c_30 => ?_) (fun c_30 => absurd c_30 (by decide))
          refine xj_aload_n (pc2 := 37) dX6_teas_36 rfl rfl rfl ?_
          refine xj_getRn (pc2 := 40) (c2 := 4) fok_X6_26 dX6_teas_37 rfl rfl rfl rfl rfl ?_
          refine xj_aload_n (pc2 := 41) dX6_teas_40 rfl rfl rfl ?_
          refine xj_getRn (pc2 := 44) (c2 := 2) fok_X6_19 dX6_teas_41 rfl rfl rfl rfl rfl ?_
          refine xj_V1V (pc2 := 47) (d2 := 1) mok_X5_copyFrom ml_X6_222 ima_yX5_copyFrom sel_yX5_copyFrom rfl rfl dX6_teas_44 rfl rfl (by decide) (by decide) (Nat.le_of_ble_eq_true rfl) (fun _ => rfl) ?_
          refine c_X5_copyFrom (Or.inr (Or.inr rfl)) (Or.inl rfl) (by decide) hR hW ?_
          intro h2 hR2 hf2
          have hz : ∀ c k, c ≠ 4 → (c < 65 ∨ 75 ≤ c) → h2 c k = h c k := fun c k q1 q2 => hf2 c k q1 (fun i hi => by unfold ch; omega)
          refine xj_aload_n (pc2 := 48) dX6_teas_47 rfl rfl rfl ?_
          refine xj_getRn (pc2 := 51) (c2 := 8) fok_X6_53 dX6_teas_48 rfl rfl rfl rfl rfl ?_
          refine xj_iload_n (pc2 := 52) dX6_teas_51 rfl rfl rfl ?_
          refine xj_putI (pc2 := 55) (kz := 0) fok_X6_225 dX6_teas_52 rfl rfl rfl rfl rfl ?_
          refine xj_iconst (pc2 := 56) dX6_teas_55 rfl ?_
          refine xj_istore4 (pc2 := 58) dX6_teas_56 rfl (by decide) rfl ?_
          refine xj_iconst (pc2 := 59) dX6_teas_58 rfl ?_
          refine xj_istore5 (pc2 := 61) dX6_teas_59 rfl (by decide) rfl ?_
          exact key _ (by omega) (by omega) (by omega) (by omega) (RC_eq hR2 (fun k => hset_nc (by decide)) (fun i k hi => hset_nc (by unfold ch; omega))) (hset_eq _ _ _ _) (fun c j hc => (hset_nc (by unfold LC at hc; omega)).trans (hz c j (by unfold LC at hc; omega) (by unfold LC at hc; omega)))
        · -- X6_hasShop = 0
          intro c_27
          refine xj_if_ne (pc2 := 33) (tgt := 36) dX6_teas_30 rfl rfl (by omega) (fun c_30 => absurd c_30 (by decide)) (fun c_30 => ?_)
          refine xj_bipush (pc2 := 35) dX6_teas_33 rfl (by decide) ?_
          refine xj_iret dX6_teas_35 rfl ?_
          exact q_eq (by unfold teasZ; rw [if_neg (by omega), if_pos (by omega)]) (hq h hK FrC_rf)
      · -- X6_within = 0
        intro c_17
        refine xj_if_ne (pc2 := 23) (tgt := 26) dX6_teas_20 rfl rfl (by omega) (fun c_20 => absurd c_20 (by decide)) (fun c_20 => ?_)
        refine xj_bipush (pc2 := 25) dX6_teas_23 rfl (by decide) ?_
        refine xj_iret dX6_teas_25 rfl ?_
        exact q_eq (by unfold teasZ; rw [if_pos (by omega)]) (hq h hK FrC_rf)
  · -- X6_within = 0
    intro c_4
    refine xj_if_eq (pc2 := 10) (tgt := 23) dX6_teas_7 rfl rfl (by omega) (fun c_7 => ?_) (fun c_7 => absurd c_7 (by decide))
    refine xj_bipush (pc2 := 25) dX6_teas_23 rfl (by decide) ?_
    refine xj_iret dX6_teas_25 rfl ?_
    exact q_eq (by unfold teasZ; rw [if_pos (by omega)]) (hq h hK FrC_rf)
