/-! the class's own calls: dress, boxes, odds, teas -/
theorem KC_far {S I : Sh} {len : Int} {pg : Int → Int} {im tr td : Int} {h h' : Hp} (hK : KC S I len pg im tr td h) (e : ∀ c k, LC c → h' c k = h c k) : KC S I len pg im tr td h' := KC_eq hK e
def bestD (S : Sh) (y : Int) : Int := if y < S 6 0 then ((dA S).2.2 y.toNat : Int) - 1 else -1
def dressA (S : Sh) (x : Int) : Int := if x = 0 then (dA S).1 else if x = 1 then (dA S).2.1 else bestD S (x - 10)
def okD (S : Sh) (td x : Int) : Prop := ((0 ≤ x ∧ x ≤ 1) ∨ (10 ≤ x ∧ x ≤ 15)) ∧ 0 < S 6 0 ∧ td < 20
def dressR (x : Int) : Int := if ¬ ((0 ≤ x ∧ x ≤ 1) ∨ (10 ≤ x ∧ x ≤ 15)) then -102 else -103
theorem c_X6_dress {S I : Sh} {len x : Int} {pg : Int → Int} {im tr td : Int} {h : Hp} {Q : Int → Hp → Prop} (hK : KC S I len pg im tr td h) (hKW : KW S I im tr td) (hx : -2147483648 ≤ x ∧ x ≤ 2147483647) (h1 : okD S td x → ∀ h', KC S I len pg im tr (td + 1) h' → FrC h h' → Q (dressA S x) h') (h0 : ¬ okD S td x → ∀ h', KC S I len pg im tr td h' → FrC h h' → Q (dressR x) h') : CJ (2 + 9) kX6_dress [.ref 0, vi x] h Q := by
  obtain ⟨hR, hI, hP, hk8, hk9, hk10⟩ := id hK
  have hW := hKW.1
  have htd := hKW.2.2.2.2.2
  obtain ⟨⟨hn, hw, hh, hs⟩, hG, hN, hE⟩ := id hR
  have hnn := wf_n hW
  have hng := nG_eq hW
  unfold okD at h1 h0
  refine cj_of (lo := [some (.ref 0), some (vi x)]) mok_X6_dress (fun _ => rfl) (fun _ => Nat.le_of_ble_eq_true rfl) ?_
  refine xj_iload_n (pc2 := 1) dX6_dress_0 rfl rfl rfl ?_
  refine xj_iconst (pc2 := 2) dX6_dress_1 rfl ?_
  refine xj_iconst (pc2 := 3) dX6_dress_2 rfl ?_
  refine xj_S3I (pc2 := 6) (d2 := 0) mok_X6_within ml_X6_57 sta_yX6_within dX6_dress_3 rfl rfl (by decide) (by decide) (Nat.le_of_ble_eq_true rfl) (fun _ => rfl) ?_
  refine c_X6_within (by omega) (by omega) (by omega) ?_ ?_
  · -- X6_within = 1
    intro c_3
    refine xj_if_ne (pc2 := 9) (tgt := 19) dX6_dress_6 rfl rfl (by omega) (fun c_6 => ?_) (fun c_6 => absurd c_6 (by decide))
    refine xj_aload_n (pc2 := 20) dX6_dress_19 rfl rfl rfl ?_
    refine xj_V0I (pc2 := 23) (d2 := 0) mok_X6_hasShop ml_X6_167 ima_yX6_hasShop sel_yX6_hasShop rfl rfl dX6_dress_20 rfl rfl (by decide) (by decide) (Nat.le_of_ble_eq_true rfl) (fun _ => rfl) ?_
    refine c_X6_hasShop hn (by omega) ?_ ?_
    · -- X6_hasShop = 1
      intro c_20
      refine xj_if_eq (pc2 := 26) (tgt := 35) dX6_dress_23 rfl rfl (by omega) (fun c_23 => absurd c_23 (by decide)) (fun c_23 => ?_)
      refine xj_aload_n (pc2 := 27) dX6_dress_26 rfl rfl rfl ?_
      refine xj_getI (pc2 := 30) (kz := 10) fok_X6_183 dX6_dress_27 rfl rfl rfl (by decide) rfl (by first | assumption | rfl) ?_
      refine xj_bipush (pc2 := 32) dX6_dress_30 rfl (by decide) ?_
      refine xj_cmp_lt (pc2 := 35) (tgt := 38) dX6_dress_32 rfl rfl (by omega) (by omega) (fun c_32 => ?_) (fun c_32 => ?_)
      · -- 38
        refine xj_aload_n (pc2 := 39) dX6_dress_38 rfl rfl rfl ?_
        refine xj_dup (pc2 := 40) dX6_dress_39 rfl rfl ?_
        refine xj_getI (pc2 := 43) (kz := 10) fok_X6_183 dX6_dress_40 rfl rfl rfl (by decide) rfl (by first | assumption | rfl) ?_
        refine xj_iconst (pc2 := 44) dX6_dress_43 rfl ?_
        refine xj_iadd (pc2 := 45) dX6_dress_44 rfl ?_
        refine xj_putI (pc2 := 48) (kz := 10) fok_X6_183 dX6_dress_45 rfl rfl rfl rfl rfl ?_
        have hKd : KC S I len pg im tr (td + 1) (hset h 0 10 (td + 1)) := ⟨RC_eq hR (fun k => hset_nc (by decide)) (fun i k hi => hset_nc (by unfold ch; omega)), fun q => RC_eq (hI q) (fun k => hset_nc (by decide)) (fun i k hi => hset_nc (by unfold ch; omega)), RP_eq hP (fun k => hset_nc (by decide)) (fun k => hset_nc (by decide)), (hset_nk (by decide)).trans hk8, (hset_nk (by decide)).trans hk9, hset_eq _ _ _ _⟩
        have hR := hKd.1
        refine xj_aload_n (pc2 := 49) dX6_dress_48 rfl rfl rfl ?_
        refine xj_getRn (pc2 := 52) (c2 := 5) fok_X6_32 dX6_dress_49 rfl rfl rfl rfl rfl ?_
        refine xj_aload_n (pc2 := 53) dX6_dress_52 rfl rfl rfl ?_
        refine xj_getRn (pc2 := 56) (c2 := 2) fok_X6_19 dX6_dress_53 rfl rfl rfl rfl rfl ?_
        refine xj_V1V (pc2 := 59) (d2 := (2 + 7)) mok_X2_find ml_X6_186 ima_yX2_find sel_yX2_find rfl rfl dX6_dress_56 rfl rfl (by decide) (by decide) (Nat.le_of_ble_eq_true rfl) (fun _ => rfl) ?_
        refine c_X2_find hR hW ?_
        intro h2 hD1 hD2
        refine xj_iload_n (pc2 := 60) dX6_dress_59 rfl rfl rfl ?_
        have hK2 := KC_eq hKd (fun c k hc => hD2 c k (by unfold LC at hc; omega) (by unfold LC at hc; omega) (by unfold LC at hc; omega) (by unfold LC at hc; omega) (by unfold LC at hc; omega))
        have hF2 : FrC h h2 := fun c k hc => (hD2 c k (by omega) (by omega) (by omega) (by omega) (by omega)).trans (hset_nc (by omega))
        obtain ⟨d1, d2, d3⟩ := hD1
        refine tsw_X6_dress_60 (by omega) (fun c_60 => ?_) (fun c_60 => ?_) (fun c_60 => ?_)
        · -- 88
          refine xj_aload_n (pc2 := 89) dX6_dress_88 rfl rfl rfl ?_
          refine xj_getRn (pc2 := 92) (c2 := 5) fok_X6_32 dX6_dress_89 rfl rfl rfl rfl rfl ?_
          refine xj_getI (pc2 := 95) (kz := 4) fok_X6_189 dX6_dress_92 rfl rfl rfl (by decide) rfl (by first | assumption | rfl) ?_
          refine xj_iret dX6_dress_95 rfl ?_
          exact q_eq (by rw [c_60]; rfl) (h1 (by omega) _ hK2 hF2)
        · -- 96
          refine xj_aload_n (pc2 := 97) dX6_dress_96 rfl rfl rfl ?_
          refine xj_getRn (pc2 := 100) (c2 := 5) fok_X6_32 dX6_dress_97 rfl rfl rfl rfl rfl ?_
          refine xj_getI (pc2 := 103) (kz := 5) fok_X6_192 dX6_dress_100 rfl rfl rfl (by decide) rfl (by first | assumption | rfl) ?_
          refine xj_iret dX6_dress_103 rfl ?_
          exact q_eq (by rw [c_60]; rfl) (h1 (by omega) _ hK2 hF2)
        · -- 104
          have d3c : ∀ y : Int, 0 ≤ y → y < 6 → h2 84 y = bestD S y := fun y q1 q2 => by
            obtain ⟨m, rfl⟩ := Int.eq_ofNat_of_zero_le q1
            rw [d3 m (by omega), bestD, Int.toNat_natCast]
            by_cases e : m < nG S
            · rw [if_pos e, if_pos (by omega)]
            · rw [if_neg e, if_neg (by omega)]
          refine xj_aload_n (pc2 := 105) dX6_dress_104 rfl rfl rfl ?_
          refine xj_getRn (pc2 := 108) (c2 := 5) fok_X6_32 dX6_dress_105 rfl rfl rfl rfl rfl ?_
          refine xj_getRn (pc2 := 111) (c2 := 84) fok_X6_195 dX6_dress_108 rfl rfl rfl rfl rfl ?_
          refine xj_iload_n (pc2 := 112) dX6_dress_111 rfl rfl rfl ?_
          refine xj_bipush (pc2 := 114) dX6_dress_112 rfl (by decide) ?_
          refine xj_isub (pc2 := 115) dX6_dress_114 rfl ?_
          refine xj_S2I (pc2 := 118) (d2 := 0) mok_X6_at ml_X6_98 sta_yX6_at dX6_dress_115 rfl rfl (by decide) (by decide) (Nat.le_of_ble_eq_true rfl) (fun _ => rfl) ?_
          refine c_X6_at rfl (by omega) (by decide) (d3c _ (by omega) (by omega)) ?_
          refine xj_iret dX6_dress_118 rfl ?_
          first
          | (exfalso; omega)
          | exact q_eq (by unfold dressA; rw [if_neg (by omega), if_neg (by omega)]) (h1 (by omega) _ hK2 hF2)
      · -- 35
        refine xj_bipush (pc2 := 37) dX6_dress_35 rfl (by decide) ?_
        refine xj_iret dX6_dress_37 rfl ?_
        exact q_eq (by unfold dressR; (repeat' split) <;> first | (exfalso; omega) | rfl | omega) (h0 (by omega) h hK FrC_rf)
    · -- X6_hasShop = 0
      intro c_20
      refine xj_if_eq (pc2 := 26) (tgt := 35) dX6_dress_23 rfl rfl (by omega) (fun c_23 => ?_) (fun c_23 => absurd c_23 (by decide))
      refine xj_bipush (pc2 := 37) dX6_dress_35 rfl (by decide) ?_
      refine xj_iret dX6_dress_37 rfl ?_
      exact q_eq (by unfold dressR; (repeat' split) <;> first | (exfalso; omega) | rfl | omega) (h0 (by omega) h hK FrC_rf)
  · -- X6_within = 0
    intro c_3
    refine xj_if_ne (pc2 := 9) (tgt := 19) dX6_dress_6 rfl rfl (by omega) (fun c_6 => absurd c_6 (by decide)) (fun c_6 => ?_)
    refine xj_iload_n (pc2 := 10) dX6_dress_9 rfl rfl rfl ?_
    refine xj_S1I (pc2 := 13) (d2 := 1) mok_X6_asksOfGlove ml_X6_180 sta_yX6_asksOfGlove dX6_dress_10 rfl rfl (by decide) (by decide) (Nat.le_of_ble_eq_true rfl) (fun _ => rfl) ?_
    refine c_X6_asksOfGlove (by omega) ?_ ?_
    · -- X6_asksOfGlove = 1
      intro c_10
      refine xj_if_ne (pc2 := 16) (tgt := 19) dX6_dress_13 rfl rfl (by omega) (fun c_13 => ?_) (fun c_13 => absurd c_13 (by decide))
      refine xj_aload_n (pc2 := 20) dX6_dress_19 rfl rfl rfl ?_
      refine xj_V0I (pc2 := 23) (d2 := 0) mok_X6_hasShop ml_X6_167 ima_yX6_hasShop sel_yX6_hasShop rfl rfl dX6_dress_20 rfl rfl (by decide) (by decide) (Nat.le_of_ble_eq_true rfl) (fun _ => rfl) ?_
      refine c_X6_hasShop hn (by omega) ?_ ?_
      · -- X6_hasShop = 1
        intro c_20
        refine xj_if_eq (pc2 := 26) (tgt := 35) dX6_dress_23 rfl rfl (by omega) (fun c_23 => absurd c_23 (by decide)) (fun c_23 => ?_)
        refine xj_aload_n (pc2 := 27) dX6_dress_26 rfl rfl rfl ?_
        refine xj_getI (pc2 := 30) (kz := 10) fok_X6_183 dX6_dress_27 rfl rfl rfl (by decide) rfl (by first | assumption | rfl) ?_
        refine xj_bipush (pc2 := 32) dX6_dress_30 rfl (by decide) ?_
        refine xj_cmp_lt (pc2 := 35) (tgt := 38) dX6_dress_32 rfl rfl (by omega) (by omega) (fun c_32 => ?_) (fun c_32 => ?_)
        · -- 38
          refine xj_aload_n (pc2 := 39) dX6_dress_38 rfl rfl rfl ?_
          refine xj_dup (pc2 := 40) dX6_dress_39 rfl rfl ?_
          refine xj_getI (pc2 := 43) (kz := 10) fok_X6_183 dX6_dress_40 rfl rfl rfl (by decide) rfl (by first | assumption | rfl) ?_
          refine xj_iconst (pc2 := 44) dX6_dress_43 rfl ?_
          refine xj_iadd (pc2 := 45) dX6_dress_44 rfl ?_
          refine xj_putI (pc2 := 48) (kz := 10) fok_X6_183 dX6_dress_45 rfl rfl rfl rfl rfl ?_
          have hKd : KC S I len pg im tr (td + 1) (hset h 0 10 (td + 1)) := ⟨RC_eq hR (fun k => hset_nc (by decide)) (fun i k hi => hset_nc (by unfold ch; omega)), fun q => RC_eq (hI q) (fun k => hset_nc (by decide)) (fun i k hi => hset_nc (by unfold ch; omega)), RP_eq hP (fun k => hset_nc (by decide)) (fun k => hset_nc (by decide)), (hset_nk (by decide)).trans hk8, (hset_nk (by decide)).trans hk9, hset_eq _ _ _ _⟩
          have hR := hKd.1
          refine xj_aload_n (pc2 := 49) dX6_dress_48 rfl rfl rfl ?_
          refine xj_getRn (pc2 := 52) (c2 := 5) fok_X6_32 dX6_dress_49 rfl rfl rfl rfl rfl ?_
          refine xj_aload_n (pc2 := 53) dX6_dress_52 rfl rfl rfl ?_
          refine xj_getRn (pc2 := 56) (c2 := 2) fok_X6_19 dX6_dress_53 rfl rfl rfl rfl rfl ?_
          refine xj_V1V (pc2 := 59) (d2 := (2 + 7)) mok_X2_find ml_X6_186 ima_yX2_find sel_yX2_find rfl rfl dX6_dress_56 rfl rfl (by decide) (by decide) (Nat.le_of_ble_eq_true rfl) (fun _ => rfl) ?_
          refine c_X2_find hR hW ?_
          intro h2 hD1 hD2
          refine xj_iload_n (pc2 := 60) dX6_dress_59 rfl rfl rfl ?_
          have hK2 := KC_eq hKd (fun c k hc => hD2 c k (by unfold LC at hc; omega) (by unfold LC at hc; omega) (by unfold LC at hc; omega) (by unfold LC at hc; omega) (by unfold LC at hc; omega))
          have hF2 : FrC h h2 := fun c k hc => (hD2 c k (by omega) (by omega) (by omega) (by omega) (by omega)).trans (hset_nc (by omega))
          obtain ⟨d1, d2, d3⟩ := hD1
          refine tsw_X6_dress_60 (by omega) (fun c_60 => ?_) (fun c_60 => ?_) (fun c_60 => ?_)
          · -- 88
            refine xj_aload_n (pc2 := 89) dX6_dress_88 rfl rfl rfl ?_
            refine xj_getRn (pc2 := 92) (c2 := 5) fok_X6_32 dX6_dress_89 rfl rfl rfl rfl rfl ?_
            refine xj_getI (pc2 := 95) (kz := 4) fok_X6_189 dX6_dress_92 rfl rfl rfl (by decide) rfl (by first | assumption | rfl) ?_
            refine xj_iret dX6_dress_95 rfl ?_
            exact q_eq (by rw [c_60]; rfl) (h1 (by omega) _ hK2 hF2)
          · -- 96
            refine xj_aload_n (pc2 := 97) dX6_dress_96 rfl rfl rfl ?_
            refine xj_getRn (pc2 := 100) (c2 := 5) fok_X6_32 dX6_dress_97 rfl rfl rfl rfl rfl ?_
            refine xj_getI (pc2 := 103) (kz := 5) fok_X6_192 dX6_dress_100 rfl rfl rfl (by decide) rfl (by first | assumption | rfl) ?_
            refine xj_iret dX6_dress_103 rfl ?_
            exact q_eq (by rw [c_60]; rfl) (h1 (by omega) _ hK2 hF2)
          · -- 104
            have d3c : ∀ y : Int, 0 ≤ y → y < 6 → h2 84 y = bestD S y := fun y q1 q2 => by
              obtain ⟨m, rfl⟩ := Int.eq_ofNat_of_zero_le q1
              rw [d3 m (by omega), bestD, Int.toNat_natCast]
              by_cases e : m < nG S
              · rw [if_pos e, if_pos (by omega)]
              · rw [if_neg e, if_neg (by omega)]
            refine xj_aload_n (pc2 := 105) dX6_dress_104 rfl rfl rfl ?_
            refine xj_getRn (pc2 := 108) (c2 := 5) fok_X6_32 dX6_dress_105 rfl rfl rfl rfl rfl ?_
            refine xj_getRn (pc2 := 111) (c2 := 84) fok_X6_195 dX6_dress_108 rfl rfl rfl rfl rfl ?_
            refine xj_iload_n (pc2 := 112) dX6_dress_111 rfl rfl rfl ?_
            refine xj_bipush (pc2 := 114) dX6_dress_112 rfl (by decide) ?_
            refine xj_isub (pc2 := 115) dX6_dress_114 rfl ?_
            refine xj_S2I (pc2 := 118) (d2 := 0) mok_X6_at ml_X6_98 sta_yX6_at dX6_dress_115 rfl rfl (by decide) (by decide) (Nat.le_of_ble_eq_true rfl) (fun _ => rfl) ?_
            refine c_X6_at rfl (by omega) (by decide) (d3c _ (by omega) (by omega)) ?_
            refine xj_iret dX6_dress_118 rfl ?_
            first
            | (exfalso; omega)
            | exact q_eq (by unfold dressA; rw [if_neg (by omega), if_neg (by omega)]) (h1 (by omega) _ hK2 hF2)
        · -- 35
          refine xj_bipush (pc2 := 37) dX6_dress_35 rfl (by decide) ?_
          refine xj_iret dX6_dress_37 rfl ?_
          exact q_eq (by unfold dressR; (repeat' split) <;> first | (exfalso; omega) | rfl | omega) (h0 (by omega) h hK FrC_rf)
      · -- X6_hasShop = 0
        intro c_20
        refine xj_if_eq (pc2 := 26) (tgt := 35) dX6_dress_23 rfl rfl (by omega) (fun c_23 => ?_) (fun c_23 => absurd c_23 (by decide))
        refine xj_bipush (pc2 := 37) dX6_dress_35 rfl (by decide) ?_
        refine xj_iret dX6_dress_37 rfl ?_
        exact q_eq (by unfold dressR; (repeat' split) <;> first | (exfalso; omega) | rfl | omega) (h0 (by omega) h hK FrC_rf)
    · -- X6_asksOfGlove = 0
      intro c_10
      refine xj_if_ne (pc2 := 16) (tgt := 19) dX6_dress_13 rfl rfl (by omega) (fun c_13 => absurd c_13 (by decide)) (fun c_13 => ?_)
      refine xj_bipush (pc2 := 18) dX6_dress_16 rfl (by decide) ?_
      refine xj_iret dX6_dress_18 rfl ?_
      exact q_eq (by unfold dressR; (repeat' split) <;> first | (exfalso; omega) | rfl | omega) (h0 (by omega) h hK FrC_rf)
def bestB (S : Sh) (y : Int) : Int := if y < S 6 0 then ((bA S).2 y.toNat : Int) else -1
def boxesZ (S : Sh) (x : Int) : Int := if ¬ (x = 0 ∨ (10 ≤ x ∧ x ≤ 15)) then -102 else if ¬ (0 < S 6 0) then -103 else if x = 0 then (bA S).1 else bestB S (x - 10)
theorem c_X6_boxes {S I : Sh} {len x : Int} {pg : Int → Int} {im tr td : Int} {h : Hp} {Q : Int → Hp → Prop} (hK : KC S I len pg im tr td h) (hKW : KW S I im tr td) (hx : -2147483648 ≤ x ∧ x ≤ 2147483647) (hq : ∀ h', KC S I len pg im tr td h' → FrC h h' → Q (boxesZ S x) h') : CJ (1 + 9) kX6_boxes [.ref 0, vi x] h Q := by
  obtain ⟨hR, hI, hP, hk8, hk9, hk10⟩ := id hK
  have hW := hKW.1
  obtain ⟨⟨hn, hw, hh, hs⟩, hG, hN, hE⟩ := id hR
  have hnn := wf_n hW
  have hng := nG_eq hW
  refine cj_of (lo := [some (.ref 0), some (vi x)]) mok_X6_boxes (fun _ => rfl) (fun _ => Nat.le_of_ble_eq_true rfl) ?_
  refine xj_iload_n (pc2 := 1) dX6_boxes_0 rfl rfl rfl ?_
  refine xj_if_eq (pc2 := 4) (tgt := 14) dX6_boxes_1 rfl rfl (by omega) (fun c_1 => ?_) (fun c_1 => ?_)
  · -- 14
    refine xj_aload_n (pc2 := 15) dX6_boxes_14 rfl rfl rfl ?_
    refine xj_V0I (pc2 := 18) (d2 := 0) mok_X6_hasShop ml_X6_167 ima_yX6_hasShop sel_yX6_hasShop rfl rfl dX6_boxes_15 rfl rfl (by decide) (by decide) (Nat.le_of_ble_eq_true rfl) (fun _ => rfl) ?_
    refine c_X6_hasShop hn (by omega) ?_ ?_
    · -- X6_hasShop = 1
      intro c_15
      refine xj_if_ne (pc2 := 21) (tgt := 24) dX6_boxes_18 rfl rfl (by omega) (fun c_18 => ?_) (fun c_18 => absurd c_18 (by decide))
      refine xj_aload_n (pc2 := 25) dX6_boxes_24 rfl rfl rfl ?_
      refine xj_getRn (pc2 := 28) (c2 := 6) fok_X6_39 dX6_boxes_25 rfl rfl rfl rfl rfl ?_
      refine xj_aload_n (pc2 := 29) dX6_boxes_28 rfl rfl rfl ?_
      refine xj_getRn (pc2 := 32) (c2 := 2) fok_X6_19 dX6_boxes_29 rfl rfl rfl rfl rfl ?_
      refine xj_V1V (pc2 := 35) (d2 := (1 + 7)) mok_X3_find ml_X6_198 ima_yX3_find sel_yX3_find rfl rfl dX6_boxes_32 rfl rfl (by decide) (by decide) (Nat.le_of_ble_eq_true rfl) (fun _ => rfl) ?_
      refine c_X3_find hR hW ?_
      intro h2 hB1 hB2
      have hK2 := KC_eq hK (fun c k hc => hB2 c k (by unfold LC at hc; omega) (by unfold LC at hc; omega) (by unfold LC at hc; omega) (by unfold LC at hc; omega) (by unfold LC at hc; omega))
      have hF2 : FrC h h2 := fun c k hc => (hB2 c k (by omega) (by omega) (by omega) (by omega) (by omega))
      obtain ⟨d1, d3⟩ := hB1
      have d3c : ∀ y : Int, 0 ≤ y → y < 6 → h2 100 y = bestB S y := fun y q1 q2 => by
        obtain ⟨m, rfl⟩ := Int.eq_ofNat_of_zero_le q1
        rw [d3 m (by omega), bestB, Int.toNat_natCast]
        by_cases e : m < nG S
        · rw [if_pos e, if_pos (by omega)]
        · rw [if_neg e, if_neg (by omega)]
      refine xj_iload_n (pc2 := 36) dX6_boxes_35 rfl rfl rfl ?_
      refine xj_if_ne (pc2 := 39) (tgt := 49) dX6_boxes_36 rfl rfl (by omega) (fun c_36 => ?_) (fun c_36 => ?_)
      · -- 49
        refine xj_aload_n (pc2 := 50) dX6_boxes_49 rfl rfl rfl ?_
        refine xj_getRn (pc2 := 53) (c2 := 6) fok_X6_39 dX6_boxes_50 rfl rfl rfl rfl rfl ?_
        refine xj_getRn (pc2 := 56) (c2 := 100) fok_X6_202 dX6_boxes_53 rfl rfl rfl rfl rfl ?_
        refine xj_iload_n (pc2 := 57) dX6_boxes_56 rfl rfl rfl ?_
        refine xj_bipush (pc2 := 59) dX6_boxes_57 rfl (by decide) ?_
        refine xj_isub (pc2 := 60) dX6_boxes_59 rfl ?_
        refine xj_S2I (pc2 := 63) (d2 := 0) mok_X6_at ml_X6_98 sta_yX6_at dX6_boxes_60 rfl rfl (by decide) (by decide) (Nat.le_of_ble_eq_true rfl) (fun _ => rfl) ?_
        refine c_X6_at rfl (by omega) (by decide) (d3c _ (by omega) (by omega)) ?_
        refine xj_iret dX6_boxes_63 rfl ?_
        first
        | (exfalso; omega)
        | exact q_eq (by unfold boxesZ; rw [if_neg (by omega), if_neg (by omega), if_pos (by omega)]) (hq _ hK2 hF2)
        | exact q_eq (by unfold boxesZ; rw [if_neg (by omega), if_neg (by omega), if_neg (by omega)]) (hq _ hK2 hF2)
      · -- 39
        refine xj_aload_n (pc2 := 40) dX6_boxes_39 rfl rfl rfl ?_
        refine xj_getRn (pc2 := 43) (c2 := 6) fok_X6_39 dX6_boxes_40 rfl rfl rfl rfl rfl ?_
        refine xj_getI (pc2 := 46) (kz := 4) fok_X6_199 dX6_boxes_43 rfl rfl rfl (by decide) rfl (by first | assumption | rfl) ?_
        refine xj_goto (tgt := 63) dX6_boxes_46 rfl ?_
        refine xj_iret dX6_boxes_63 rfl ?_
        first
        | (exfalso; omega)
        | exact q_eq (by unfold boxesZ; rw [if_neg (by omega), if_neg (by omega), if_pos (by omega)]) (hq _ hK2 hF2)
        | exact q_eq (by unfold boxesZ; rw [if_neg (by omega), if_neg (by omega), if_neg (by omega)]) (hq _ hK2 hF2)
    · -- X6_hasShop = 0
      intro c_15
      refine xj_if_ne (pc2 := 21) (tgt := 24) dX6_boxes_18 rfl rfl (by omega) (fun c_18 => absurd c_18 (by decide)) (fun c_18 => ?_)
      refine xj_bipush (pc2 := 23) dX6_boxes_21 rfl (by decide) ?_
      refine xj_iret dX6_boxes_23 rfl ?_
      exact q_eq (by unfold boxesZ; rw [if_neg (by omega), if_pos (by omega)]) (hq h hK FrC_rf)
  · -- 4
    refine xj_iload_n (pc2 := 5) dX6_boxes_4 rfl rfl rfl ?_
    refine xj_S1I (pc2 := 8) (d2 := 1) mok_X6_asksOfGlove ml_X6_180 sta_yX6_asksOfGlove dX6_boxes_5 rfl rfl (by decide) (by decide) (Nat.le_of_ble_eq_true rfl) (fun _ => rfl) ?_
    refine c_X6_asksOfGlove (by omega) ?_ ?_
    · -- X6_asksOfGlove = 1
      intro c_5
      refine xj_if_ne (pc2 := 11) (tgt := 14) dX6_boxes_8 rfl rfl (by omega) (fun c_8 => ?_) (fun c_8 => absurd c_8 (by decide))
      refine xj_aload_n (pc2 := 15) dX6_boxes_14 rfl rfl rfl ?_
      refine xj_V0I (pc2 := 18) (d2 := 0) mok_X6_hasShop ml_X6_167 ima_yX6_hasShop sel_yX6_hasShop rfl rfl dX6_boxes_15 rfl rfl (by decide) (by decide) (Nat.le_of_ble_eq_true rfl) (fun _ => rfl) ?_
      refine c_X6_hasShop hn (by omega) ?_ ?_
      · -- X6_hasShop = 1
        intro c_15
        refine xj_if_ne (pc2 := 21) (tgt := 24) dX6_boxes_18 rfl rfl (by omega) (fun c_18 => ?_) (fun c_18 => absurd c_18 (by decide))
        refine xj_aload_n (pc2 := 25) dX6_boxes_24 rfl rfl rfl ?_
        refine xj_getRn (pc2 := 28) (c2 := 6) fok_X6_39 dX6_boxes_25 rfl rfl rfl rfl rfl ?_
        refine xj_aload_n (pc2 := 29) dX6_boxes_28 rfl rfl rfl ?_
        refine xj_getRn (pc2 := 32) (c2 := 2) fok_X6_19 dX6_boxes_29 rfl rfl rfl rfl rfl ?_
        refine xj_V1V (pc2 := 35) (d2 := (1 + 7)) mok_X3_find ml_X6_198 ima_yX3_find sel_yX3_find rfl rfl dX6_boxes_32 rfl rfl (by decide) (by decide) (Nat.le_of_ble_eq_true rfl) (fun _ => rfl) ?_
        refine c_X3_find hR hW ?_
        intro h2 hB1 hB2
        have hK2 := KC_eq hK (fun c k hc => hB2 c k (by unfold LC at hc; omega) (by unfold LC at hc; omega) (by unfold LC at hc; omega) (by unfold LC at hc; omega) (by unfold LC at hc; omega))
        have hF2 : FrC h h2 := fun c k hc => (hB2 c k (by omega) (by omega) (by omega) (by omega) (by omega))
        obtain ⟨d1, d3⟩ := hB1
        have d3c : ∀ y : Int, 0 ≤ y → y < 6 → h2 100 y = bestB S y := fun y q1 q2 => by
          obtain ⟨m, rfl⟩ := Int.eq_ofNat_of_zero_le q1
          rw [d3 m (by omega), bestB, Int.toNat_natCast]
          by_cases e : m < nG S
          · rw [if_pos e, if_pos (by omega)]
          · rw [if_neg e, if_neg (by omega)]
        refine xj_iload_n (pc2 := 36) dX6_boxes_35 rfl rfl rfl ?_
        refine xj_if_ne (pc2 := 39) (tgt := 49) dX6_boxes_36 rfl rfl (by omega) (fun c_36 => ?_) (fun c_36 => ?_)
        · -- 49
          refine xj_aload_n (pc2 := 50) dX6_boxes_49 rfl rfl rfl ?_
          refine xj_getRn (pc2 := 53) (c2 := 6) fok_X6_39 dX6_boxes_50 rfl rfl rfl rfl rfl ?_
          refine xj_getRn (pc2 := 56) (c2 := 100) fok_X6_202 dX6_boxes_53 rfl rfl rfl rfl rfl ?_
          refine xj_iload_n (pc2 := 57) dX6_boxes_56 rfl rfl rfl ?_
          refine xj_bipush (pc2 := 59) dX6_boxes_57 rfl (by decide) ?_
          refine xj_isub (pc2 := 60) dX6_boxes_59 rfl ?_
          refine xj_S2I (pc2 := 63) (d2 := 0) mok_X6_at ml_X6_98 sta_yX6_at dX6_boxes_60 rfl rfl (by decide) (by decide) (Nat.le_of_ble_eq_true rfl) (fun _ => rfl) ?_
          refine c_X6_at rfl (by omega) (by decide) (d3c _ (by omega) (by omega)) ?_
          refine xj_iret dX6_boxes_63 rfl ?_
          first
          | (exfalso; omega)
          | exact q_eq (by unfold boxesZ; rw [if_neg (by omega), if_neg (by omega), if_pos (by omega)]) (hq _ hK2 hF2)
          | exact q_eq (by unfold boxesZ; rw [if_neg (by omega), if_neg (by omega), if_neg (by omega)]) (hq _ hK2 hF2)
        · -- 39
          refine xj_aload_n (pc2 := 40) dX6_boxes_39 rfl rfl rfl ?_
          refine xj_getRn (pc2 := 43) (c2 := 6) fok_X6_39 dX6_boxes_40 rfl rfl rfl rfl rfl ?_
          refine xj_getI (pc2 := 46) (kz := 4) fok_X6_199 dX6_boxes_43 rfl rfl rfl (by decide) rfl (by first | assumption | rfl) ?_
          refine xj_goto (tgt := 63) dX6_boxes_46 rfl ?_
          refine xj_iret dX6_boxes_63 rfl ?_
          first
          | (exfalso; omega)
          | exact q_eq (by unfold boxesZ; rw [if_neg (by omega), if_neg (by omega), if_pos (by omega)]) (hq _ hK2 hF2)
          | exact q_eq (by unfold boxesZ; rw [if_neg (by omega), if_neg (by omega), if_neg (by omega)]) (hq _ hK2 hF2)
      · -- X6_hasShop = 0
        intro c_15
        refine xj_if_ne (pc2 := 21) (tgt := 24) dX6_boxes_18 rfl rfl (by omega) (fun c_18 => absurd c_18 (by decide)) (fun c_18 => ?_)
        refine xj_bipush (pc2 := 23) dX6_boxes_21 rfl (by decide) ?_
        refine xj_iret dX6_boxes_23 rfl ?_
        exact q_eq (by unfold boxesZ; rw [if_neg (by omega), if_pos (by omega)]) (hq h hK FrC_rf)
    · -- X6_asksOfGlove = 0
      intro c_5
      refine xj_if_ne (pc2 := 11) (tgt := 14) dX6_boxes_8 rfl rfl (by omega) (fun c_8 => absurd c_8 (by decide)) (fun c_8 => ?_)
      refine xj_bipush (pc2 := 13) dX6_boxes_11 rfl (by decide) ?_
      refine xj_iret dX6_boxes_13 rfl ?_
      exact q_eq (by unfold boxesZ; (repeat' split) <;> first | (exfalso; omega) | rfl | omega) (hq h hK FrC_rf)
def oddP (S : Sh) (w : Int) : Nat → Int := fun a => if doz (moodZ S w (bsum (heldP S w) (nG S)) a) = 1 then 1 else 0
def oddA (S : Sh) (w : Int) (n : Nat) (t : Int) : Int := BB t n (oddP S w)
def oddsZ (S : Sh) (w n t x : Int) : Int := if ¬ (0 ≤ w ∧ w < S 6 1) then -101 else if ¬ ((1 ≤ n ∧ n ≤ 8) ∧ (0 ≤ t ∧ t ≤ 10) ∧ (0 ≤ x ∧ x ≤ 1)) then -102 else if x = 0 then oddA S w n.toNat t / gcz (oddA S w n.toNat t) (10 ^ n.toNat) else 10 ^ n.toNat / gcz (oddA S w n.toNat t) (10 ^ n.toNat)
theorem pow10 {n : Nat} (h : n ≤ 8) : (1 : Int) ≤ 10 ^ n ∧ (10 : Int) ^ n ≤ 100000000 := by
  have : ∀ n : Fin 9, (1 : Int) ≤ 10 ^ (n : Nat) ∧ (10 : Int) ^ (n : Nat) ≤ 100000000 := by decide +kernel
  exact this ⟨n, by omega⟩
theorem oddA_rg {S : Sh} {w t : Int} {n : Nat} (hn : n ≤ 8) (ht : 0 ≤ t ∧ t ≤ 10) : 0 ≤ oddA S w n t ∧ oddA S w n t ≤ 10 ^ n := by
  have hp : ∀ a, 0 ≤ oddP S w a ∧ oddP S w a ≤ 1 := fun a => by unfold oddP; split <;> decide
  constructor
  · have h := ssum_le (f := fun _ => 0) (g := fun a => oddP S w a * wz t n a) (n + 1) (fun j _ => Int.mul_nonneg (hp j).1 (wz_nn ht n j))
    have e : ∀ m, ssum (fun _ => 0) m = 0 := by
      intro m
      induction m with
      | zero => rfl
      | succ m ih => show ssum _ m + 0 = 0; rw [ih]; rfl
    rw [e] at h
    exact h
  · have h := ssum_le (f := fun a => oddP S w a * wz t n a) (g := fun a => (fun _ => (1 : Int)) a * wz t n a) (n + 1) (fun j _ => Int.mul_le_mul_of_nonneg_right (hp j).2 (wz_nn ht n j))
    have h2 := BB_one t n
    unfold BB at h2
    unfold oddA BB
    omega
theorem gcz_rg {a b : Int} (ha : 0 ≤ a) (hb : 0 < b) : 0 < gcz a b ∧ gcz a b ≤ b := by
  unfold gcz
  have h1 : 0 < Nat.gcd a.toNat b.toNat := Nat.gcd_pos_of_pos_right _ (by omega)
  have h2 : Nat.gcd a.toNat b.toNat ≤ b.toNat := Nat.gcd_le_right _ (by omega)
  omega
theorem c_X6_odds {S I : Sh} {len w n t x : Int} {pg : Int → Int} {im tr td : Int} {h : Hp} {Q : Int → Hp → Prop} (hK : KC S I len pg im tr td h) (hKW : KW S I im tr td) (hw0 : -2147483648 ≤ w ∧ w ≤ 2147483647) (hn0 : -2147483648 ≤ n ∧ n ≤ 2147483647) (ht0 : -2147483648 ≤ t ∧ t ≤ 2147483647) (hx : -2147483648 ≤ x ∧ x ≤ 2147483647) (hq : ∀ h', KC S I len pg im tr td h' → FrC h h' → Q (oddsZ S w n t x) h') : CJ 4 kX6_odds [.ref 0, vi w, vi n, vi t, vi x] h Q := by
  obtain ⟨hR, hI, hP, hk8, hk9, hk10⟩ := id hK
  have hW := hKW.1
  obtain ⟨⟨hn, hw, hh, hs⟩, hG, hN, hE⟩ := id hR
  have hnn := wf_n hW
  have key : ∀ h2 : Hp, (0 ≤ w ∧ w < S 6 1) → (1 ≤ n ∧ n ≤ 8) → (0 ≤ t ∧ t ≤ 10) → (0 ≤ x ∧ x ≤ 1) → (∀ a : Nat, a ≤ 8 → h2 113 a = wz t n.toNat a) → h2 7 1 = 10 ^ n.toNat → (∀ c k, c ≠ 7 → c ≠ 113 → h2 c k = h c k) → XJ none 4 kX6_odds h2 62 [some (.ref 0), some (vi w), some (vi n), some (vi t), some (vi x), some (vi 0), some (vi 0), none, none] [] Q := by
    intro h2 c1 c2 c3 c4 g1 g2 g3
    have hK2 := KC_eq hK (fun c k hc => g3 c k (by unfold LC at hc; omega) (by unfold LC at hc; omega))
    have hF2 : FrC h h2 := fun c k hc => g3 c k (by omega) (by omega)
    have hR := hK2.1
    have har := oddA_rg (S := S) (w := w) (n := n.toNat) (by omega) c3
    have hp10 := pow10 (n := n.toNat) (by omega)
    have hgr := gcz_rg (a := oddA S w n.toNat t) (b := 10 ^ n.toNat) har.1 (by omega)
    refine down (P := fun j => XJ none 4 kX6_odds h2 62 [some (.ref 0), some (vi w), some (vi n), some (vi t), some (vi x), some (vi (ssum (fun a => oddP S w a * wz t n.toNat a) j)), some (vi j), none, none] [] Q) (n := n.toNat + 1) ?_ ?_
    · rw [show ssum (fun a => oddP S w a * wz t n.toNat a) (n.toNat + 1) = oddA S w n.toNat t from rfl]
      refine xj_iload (pc2 := 64) dX6_odds_62 rfl rfl ?_
      refine xj_iload_n (pc2 := 65) dX6_odds_64 rfl rfl rfl ?_
      refine xj_cmp_gt (pc2 := 68) (tgt := 108) dX6_odds_65 rfl rfl (by omega) (by omega) (fun c_65 => ?_) (fun c_65 => by exfalso; omega)
      refine xj_aload_n (pc2 := 109) dX6_odds_108 rfl rfl rfl ?_
      refine xj_getRn (pc2 := 112) (c2 := 7) fok_X6_46 dX6_odds_109 rfl rfl rfl rfl rfl ?_
      refine xj_getI (pc2 := 115) (kz := 1) fok_X6_210 dX6_odds_112 rfl rfl rfl (by decide) rfl (by first | assumption | rfl) ?_
      refine xj_istore6 (pc2 := 117) dX6_odds_115 rfl (by decide) rfl ?_
      refine xj_iload (pc2 := 119) dX6_odds_117 rfl rfl ?_
      refine xj_iload (pc2 := 121) dX6_odds_119 rfl rfl ?_
      refine xj_S2I (pc2 := 124) (d2 := 0) mok_X6_commonDivisor ml_X6_213 sta_yX6_commonDivisor dX6_odds_121 rfl rfl (by decide) (by decide) (Nat.le_of_ble_eq_true rfl) (fun _ => rfl) ?_
      refine c_X6_commonDivisor (by omega) (by omega) ?_
      refine xj_istore7 (pc2 := 126) dX6_odds_124 rfl (by decide) rfl ?_
      refine xj_iload (pc2 := 128) dX6_odds_126 rfl rfl ?_
      refine xj_if_ne (pc2 := 131) (tgt := 136) dX6_odds_128 rfl rfl (by omega) (fun c_128 => ?_) (fun c_128 => ?_)
      · -- 136
        refine xj_iload (pc2 := 138) dX6_odds_136 rfl rfl ?_
        refine xj_istore8 (pc2 := 140) dX6_odds_138 rfl (by decide) rfl ?_
        refine xj_iload (pc2 := 142) dX6_odds_140 rfl rfl ?_
        refine xj_if_le (pc2 := 145) (tgt := 153) dX6_odds_142 rfl rfl (by omega) (fun c_142 => by exfalso; omega) (fun c_142 => ?_)
        refine xj_iload (pc2 := 147) dX6_odds_145 rfl rfl ?_
        refine xj_iload (pc2 := 149) dX6_odds_147 rfl rfl ?_
        refine xj_idiv (pc2 := 150) dX6_odds_149 rfl (by omega) (by omega) ?_
        refine xj_goto (tgt := 155) dX6_odds_150 rfl ?_
        refine xj_iret dX6_odds_155 rfl ?_
        first
        | exact q_eq (by unfold oddsZ; rw [if_neg (by omega), if_neg (by omega), if_pos (by omega)]) (hq _ hK2 hF2)
        | exact q_eq (by unfold oddsZ; rw [if_neg (by omega), if_neg (by omega), if_neg (by omega)]) (hq _ hK2 hF2)
      · -- 131
        refine xj_iload (pc2 := 133) dX6_odds_131 rfl rfl ?_
        refine xj_goto (tgt := 138) dX6_odds_133 rfl ?_
        refine xj_istore8 (pc2 := 140) dX6_odds_138 rfl (by decide) rfl ?_
        refine xj_iload (pc2 := 142) dX6_odds_140 rfl rfl ?_
        refine xj_if_le (pc2 := 145) (tgt := 153) dX6_odds_142 rfl rfl (by omega) (fun c_142 => by exfalso; omega) (fun c_142 => ?_)
        refine xj_iload (pc2 := 147) dX6_odds_145 rfl rfl ?_
        refine xj_iload (pc2 := 149) dX6_odds_147 rfl rfl ?_
        refine xj_idiv (pc2 := 150) dX6_odds_149 rfl (by omega) (by omega) ?_
        refine xj_goto (tgt := 155) dX6_odds_150 rfl ?_
        refine xj_iret dX6_odds_155 rfl ?_
        first
        | exact q_eq (by unfold oddsZ; rw [if_neg (by omega), if_neg (by omega), if_pos (by omega)]) (hq _ hK2 hF2)
        | exact q_eq (by unfold oddsZ; rw [if_neg (by omega), if_neg (by omega), if_neg (by omega)]) (hq _ hK2 hF2)
    · intro j hj ih
      have hmr := moodZ_rg hW (w := w) (b := bsum (heldP S w) (nG S)) (m := (j : Int)) c1 (by omega)
      have hdz := doz_rg (m := moodZ S w (bsum (heldP S w) (nG S)) j)
      have e : ssum (fun a => oddP S w a * wz t n.toNat a) (j + 1) = ssum (fun a => oddP S w a * wz t n.toNat a) j + oddP S w j * wz t n.toNat j := rfl
      rw [e] at ih
      refine xj_iload (pc2 := 64) dX6_odds_62 rfl rfl ?_
      refine xj_iload_n (pc2 := 65) dX6_odds_64 rfl rfl rfl ?_
      refine xj_cmp_gt (pc2 := 68) (tgt := 108) dX6_odds_65 rfl rfl (by omega) (by omega) (fun c_65 => by exfalso; omega) (fun c_65 => ?_)
      refine xj_aload_n (pc2 := 69) dX6_odds_68 rfl rfl rfl ?_
      refine xj_getRn (pc2 := 72) (c2 := 2) fok_X6_19 dX6_odds_69 rfl rfl rfl rfl rfl ?_
      refine xj_iload_n (pc2 := 73) dX6_odds_72 rfl rfl rfl ?_
      refine xj_iload (pc2 := 75) dX6_odds_73 rfl rfl ?_
      refine xj_V2I (pc2 := 78) (d2 := 3) mok_X5_moodOf ml_X6_138 ima_yX5_moodOf sel_yX5_moodOf rfl rfl dX6_odds_75 rfl rfl (by decide) (by decide) (Nat.le_of_ble_eq_true rfl) (fun _ => rfl) ?_
      refine c_X5_moodOf (Or.inl rfl) hR hW (by omega) (by omega) ?_
      refine xj_S1I (pc2 := 81) (d2 := 0) mok_X6_doing ml_X6_144 sta_yX6_doing dX6_odds_78 rfl rfl (by decide) (by decide) (Nat.le_of_ble_eq_true rfl) (fun _ => rfl) ?_
      refine c_X6_doing (by omega) ?_
      refine xj_iconst (pc2 := 82) dX6_odds_81 rfl ?_
      refine xj_cmp_ne (pc2 := 85) (tgt := 102) dX6_odds_82 rfl rfl (by omega) (by omega) (fun c_82 => ?_) (fun c_82 => ?_)
      · -- 102
        rw [show oddP S w j = 0 by unfold oddP; rw [if_neg c_82], Int.zero_mul, Int.add_zero] at ih
        refine xj_iinc6 (pc2 := 105) dX6_odds_102 rfl (by decide) rfl ?_
        refine xj_goto (tgt := 62) dX6_odds_105 rfl ?_
        exact xj_sub (by repeat (first | exact subL_nil | apply subL_none | apply subL_some rfl)) ih
      · -- 85
        rw [show oddP S w j = 1 by unfold oddP; rw [if_pos c_82], Int.one_mul] at ih
        refine xj_iload (pc2 := 87) dX6_odds_85 rfl rfl ?_
        refine xj_aload_n (pc2 := 88) dX6_odds_87 rfl rfl rfl ?_
        refine xj_getRn (pc2 := 91) (c2 := 7) fok_X6_46 dX6_odds_88 rfl rfl rfl rfl rfl ?_
        refine xj_getRn (pc2 := 94) (c2 := 113) fok_X6_207 dX6_odds_91 rfl rfl rfl rfl rfl ?_
        refine xj_iload (pc2 := 96) dX6_odds_94 rfl rfl ?_
        refine xj_S2I (pc2 := 99) (d2 := 0) mok_X6_at ml_X6_98 sta_yX6_at dX6_odds_96 rfl rfl (by decide) (by decide) (Nat.le_of_ble_eq_true rfl) (fun _ => rfl) ?_
        refine c_X6_at rfl (by omega) (by decide) (g1 j (by omega)) ?_
        refine xj_iadd (pc2 := 100) dX6_odds_99 rfl ?_
        refine xj_istore5 (pc2 := 102) dX6_odds_100 rfl (by decide) rfl ?_
        refine xj_iinc6 (pc2 := 105) dX6_odds_102 rfl (by decide) rfl ?_
        refine xj_goto (tgt := 62) dX6_odds_105 rfl ?_
        exact xj_sub (by repeat (first | exact subL_nil | apply subL_none | apply subL_some rfl)) ih
  refine cj_of (lo := [some (.ref 0), some (vi w), some (vi n), some (vi t), some (vi x), none, none, none, none]) mok_X6_odds (fun _ => rfl) (fun _ => Nat.le_of_ble_eq_true rfl) ?_
  refine xj_aload_n (pc2 := 1) dX6_odds_0 rfl rfl rfl ?_
  refine xj_getRn (pc2 := 4) (c2 := 2) fok_X6_19 dX6_odds_1 rfl rfl rfl rfl rfl ?_
  refine xj_iload_n (pc2 := 5) dX6_odds_4 rfl rfl rfl ?_
  refine xj_V1I (pc2 := 8) (d2 := 0) mok_X5_hasWearer ml_X6_132 ima_yX5_hasWearer sel_yX5_hasWearer rfl rfl dX6_odds_5 rfl rfl (by decide) (by decide) (Nat.le_of_ble_eq_true rfl) (fun _ => rfl) ?_
  refine c_X5_hasWearer (Or.inl rfl) hR hW (by omega) ?_ ?_
  · -- X5_hasWearer = 1
    intro c_5
    refine xj_if_ne (pc2 := 11) (tgt := 14) dX6_odds_8 rfl rfl (by omega) (fun c_8 => ?_) (fun c_8 => absurd c_8 (by decide))
    refine xj_iload_n (pc2 := 15) dX6_odds_14 rfl rfl rfl ?_
    refine xj_iconst (pc2 := 16) dX6_odds_15 rfl ?_
    refine xj_bipush (pc2 := 18) dX6_odds_16 rfl (by decide) ?_
    refine xj_S3I (pc2 := 21) (d2 := 0) mok_X6_within ml_X6_57 sta_yX6_within dX6_odds_18 rfl rfl (by decide) (by decide) (Nat.le_of_ble_eq_true rfl) (fun _ => rfl) ?_
    refine c_X6_within (by omega) (by omega) (by omega) ?_ ?_
    · -- X6_within = 1
      intro c_18
      refine xj_if_eq (pc2 := 24) (tgt := 44) dX6_odds_21 rfl rfl (by omega) (fun c_21 => absurd c_21 (by decide)) (fun c_21 => ?_)
      refine xj_iload_n (pc2 := 25) dX6_odds_24 rfl rfl rfl ?_
      refine xj_iconst (pc2 := 26) dX6_odds_25 rfl ?_
      refine xj_bipush (pc2 := 28) dX6_odds_26 rfl (by decide) ?_
      refine xj_S3I (pc2 := 31) (d2 := 0) mok_X6_within ml_X6_57 sta_yX6_within dX6_odds_28 rfl rfl (by decide) (by decide) (Nat.le_of_ble_eq_true rfl) (fun _ => rfl) ?_
      refine c_X6_within (by omega) (by omega) (by omega) ?_ ?_
      · -- X6_within = 1
        intro c_28
        refine xj_if_eq (pc2 := 34) (tgt := 44) dX6_odds_31 rfl rfl (by omega) (fun c_31 => absurd c_31 (by decide)) (fun c_31 => ?_)
        refine xj_iload (pc2 := 36) dX6_odds_34 rfl rfl ?_
        refine xj_iconst (pc2 := 37) dX6_odds_36 rfl ?_
        refine xj_iconst (pc2 := 38) dX6_odds_37 rfl ?_
        refine xj_S3I (pc2 := 41) (d2 := 0) mok_X6_within ml_X6_57 sta_yX6_within dX6_odds_38 rfl rfl (by decide) (by decide) (Nat.le_of_ble_eq_true rfl) (fun _ => rfl) ?_
        refine c_X6_within (by omega) (by omega) (by omega) ?_ ?_
        · -- X6_within = 1
          intro c_38
          refine xj_if_ne (pc2 := 44) (tgt := 47) dX6_odds_41 rfl rfl (by omega) (fun c_41 => ?_) (fun c_41 => absurd c_41 (by decide))
          refine xj_aload_n (pc2 := 48) dX6_odds_47 rfl rfl rfl ?_
          refine xj_getRn (pc2 := 51) (c2 := 7) fok_X6_46 dX6_odds_48 rfl rfl rfl rfl rfl ?_
          refine xj_iload_n (pc2 := 52) dX6_odds_51 rfl rfl rfl ?_
          refine xj_iload_n (pc2 := 53) dX6_odds_52 rfl rfl rfl ?_
          obtain ⟨nn, hnq⟩ := Int.eq_ofNat_of_zero_le (show 0 ≤ n by omega)
          refine xj_V2V (pc2 := 56) (d2 := 1) mok_X0_spread ml_X6_203 ima_yX0_spread sel_yX0_spread rfl rfl dX6_odds_53 rfl rfl (by decide) (by decide) (Nat.le_of_ble_eq_true rfl) (fun _ => rfl) ?_
          rw [hnq]
          refine c_X0_spread (by omega) (by omega) ?_
          intro h2 g1 g2 g3
          rw [← hnq]
          refine xj_iconst (pc2 := 57) dX6_odds_56 rfl ?_
          refine xj_istore5 (pc2 := 59) dX6_odds_57 rfl (by decide) rfl ?_
          refine xj_iconst (pc2 := 60) dX6_odds_59 rfl ?_
          refine xj_istore6 (pc2 := 62) dX6_odds_60 rfl (by decide) rfl ?_
          exact key h2 (by omega) (by omega) (by omega) (by omega) (by rw [hnq, Int.toNat_natCast]; exact g1) (by rw [hnq, Int.toNat_natCast]; exact g2) g3
        · -- X6_within = 0
          intro c_38
          refine xj_if_ne (pc2 := 44) (tgt := 47) dX6_odds_41 rfl rfl (by omega) (fun c_41 => absurd c_41 (by decide)) (fun c_41 => ?_)
          refine xj_bipush (pc2 := 46) dX6_odds_44 rfl (by decide) ?_
          refine xj_iret dX6_odds_46 rfl ?_
          exact q_eq (by unfold oddsZ; rw [if_neg (by omega), if_pos (by omega)]) (hq h hK FrC_rf)
      · -- X6_within = 0
        intro c_28
        refine xj_if_eq (pc2 := 34) (tgt := 44) dX6_odds_31 rfl rfl (by omega) (fun c_31 => ?_) (fun c_31 => absurd c_31 (by decide))
        refine xj_bipush (pc2 := 46) dX6_odds_44 rfl (by decide) ?_
        refine xj_iret dX6_odds_46 rfl ?_
        exact q_eq (by unfold oddsZ; rw [if_neg (by omega), if_pos (by omega)]) (hq h hK FrC_rf)
    · -- X6_within = 0
      intro c_18
      refine xj_if_eq (pc2 := 24) (tgt := 44) dX6_odds_21 rfl rfl (by omega) (fun c_21 => ?_) (fun c_21 => absurd c_21 (by decide))
      refine xj_bipush (pc2 := 46) dX6_odds_44 rfl (by decide) ?_
      refine xj_iret dX6_odds_46 rfl ?_
      exact q_eq (by unfold oddsZ; rw [if_neg (by omega), if_pos (by omega)]) (hq h hK FrC_rf)
  · -- X5_hasWearer = 0
    intro c_5
    refine xj_if_ne (pc2 := 11) (tgt := 14) dX6_odds_8 rfl rfl (by omega) (fun c_8 => absurd c_8 (by decide)) (fun c_8 => ?_)
    refine xj_bipush (pc2 := 13) dX6_odds_11 rfl (by decide) ?_
    refine xj_iret dX6_odds_13 rfl ?_
    exact q_eq (by unfold oddsZ; (repeat' split) <;> first | (exfalso; omega) | rfl | omega) (hq h hK FrC_rf)
/-- a tea: the shop, the seed, how many butted so far -/
abbrev Te : Type := Sh × Int × Int
def teF : Nat → Te → Te := fun _ a => (passS (cbd a.1 a.2.1).1, (cbd a.1 a.2.1).2, a.2.2 + cntz (doP (passS (cbd a.1 a.2.1).1) 1) (nW (passS (cbd a.1 a.2.1).1)))
def teZ (S : Sh) (s : Int) (k : Nat) : Te := it teF (S, s, 0) k
def teasZ (S : Sh) (k s x : Int) : Int := if ¬ ((1 ≤ k ∧ k ≤ 60) ∧ 0 ≤ s ∧ (0 ≤ x ∧ x ≤ 2)) then -102 else if ¬ (0 < S 6 0) then -103 else if x = 0 then (teZ S s k.toNat).2.2 else if x = 1 then cntz (onP (teZ S s k.toNat).1) (nG (teZ S s k.toNat).1) else (teZ S s k.toNat).2.1
theorem cbd_n (S : Sh) (s : Int) (k : Int) : (cbd S s).1 6 k = S 6 k := by
  unfold cbd
  split
  · dsimp only
    split
    · exact hset_nc (show (6 : Nat) ≠ 3 by decide)
    · rfl
  · show hset S 3 (drw s (S 6 0)) (-1) 6 k = S 6 k
    exact hset_nc (show (6 : Nat) ≠ 3 by decide)
theorem cbd_s (S : Sh) (s : Int) : 0 ≤ (cbd S s).2 ∧ (cbd S s).2 ≤ 2147483647 := by
  have h1 := sdz_rg s
  have h2 := sdz_rg (sdz (sdz s))
  unfold cbd
  split <;> dsimp only <;> omega
theorem teZ_ok {S : Sh} (hW : WF S) (hn : 0 < S 6 0) {s : Int} (hs : 0 ≤ s ∧ s ≤ 2147483647) : ∀ k, WF (teZ S s k).1 ∧ (teZ S s k).1 6 0 = S 6 0 ∧ (teZ S s k).1 6 1 = S 6 1 ∧ (0 ≤ (teZ S s k).2.1 ∧ (teZ S s k).2.1 ≤ 2147483647) ∧ (0 ≤ (teZ S s k).2.2 ∧ (teZ S s k).2.2 ≤ 3 * k) := by
  intro k
  induction k with
  | zero => exact ⟨hW, rfl, rfl, hs, by show (0 : Int) ≤ 0 ∧ (0 : Int) ≤ 3 * (0 : Nat); decide⟩
  | succ k ih =>
    obtain ⟨i1, i2, i3, i4, i5⟩ := ih
    have hw1 := cbd_wf i1 (by rw [i2]; exact hn) (teZ S s k).2.1
    have hw2 := WF_pass hw1
    have e0 : (passS (cbd (teZ S s k).1 (teZ S s k).2.1).1) 6 0 = S 6 0 := by rw [passS_t (by decide) (by decide), cbd_n, i2]
    have e1 : (passS (cbd (teZ S s k).1 (teZ S s k).2.1).1) 6 1 = S 6 1 := by rw [passS_t (by decide) (by decide), cbd_n, i3]
    have hc := cntz_rg (q := doP (passS (cbd (teZ S s k).1 (teZ S s k).2.1).1) 1) (nW (passS (cbd (teZ S s k).1 (teZ S s k).2.1).1))
    have hnw := nW_eq hw2
    have hnn := wf_n hw2
    refine ⟨hw2, e0, e1, cbd_s _ _, ?_⟩
    show 0 ≤ (teZ S s k).2.2 + cntz (doP (passS (cbd (teZ S s k).1 (teZ S s k).2.1).1) 1) (nW (passS (cbd (teZ S s k).1 (teZ S s k).2.1).1)) ∧ (teZ S s k).2.2 + cntz (doP (passS (cbd (teZ S s k).1 (teZ S s k).2.1).1) 1) (nW (passS (cbd (teZ S s k).1 (teZ S s k).2.1).1)) ≤ 3 * ((k + 1 : Nat) : Int)
    omega
theorem c_X6_teas {S I : Sh} {len k s x : Int} {pg : Int → Int} {im tr td : Int} {h : Hp} {Q : Int → Hp → Prop} (hK : KC S I len pg im tr td h) (hKW : KW S I im tr td) (hk0 : -2147483648 ≤ k ∧ k ≤ 2147483647) (hs0 : -2147483648 ≤ s ∧ s ≤ 2147483647) (hx : -2147483648 ≤ x ∧ x ≤ 2147483647) (hq : ∀ h', KC S I len pg im tr td h' → FrC h h' → Q (teasZ S k s x) h') : CJ 5 kX6_teas [.ref 0, vi k, vi s, vi x] h Q := by
  obtain ⟨hR, hI, hP, hk8, hk9, hk10⟩ := id hK
  have hW := hKW.1
  obtain ⟨⟨hn, hw, hh, hs⟩, hG, hN, hE⟩ := id hR
  have hnn := wf_n hW
  have key : ∀ h2 : Hp, (1 ≤ k ∧ k ≤ 60) → 0 ≤ s → (0 ≤ x ∧ x ≤ 2) → 0 < S 6 0 → RC 4 S h2 → h2 8 0 = s → (∀ c j, LC c ∨ c = 0 ∨ c = 9 ∨ 145 ≤ c → h2 c j = h c j) → XJ none 5 kX6_teas h2 61 [some (.ref 0), some (vi k), some (vi s), some (vi x), some (vi 0), some (vi 0)] [] Q := by
    intro h2 c1 c2 c3 c4 d1 d2 d3
    obtain ⟨kn, hkn⟩ := Int.eq_ofNat_of_zero_le (show 0 ≤ k by omega)
    refine down (P := fun j => ∀ h' : Hp, RC 4 (teZ S s j).1 h' → h' 8 0 = (teZ S s j).2.1 → (∀ c j, LC c ∨ c = 0 ∨ c = 9 ∨ 145 ≤ c → h' c j = h c j) → XJ none 5 kX6_teas h' 61 [some (.ref 0), some (vi k), some (vi s), some (vi x), some (vi (teZ S s j).2.2), some (vi j)] [] Q) (n := kn) ?_ ?_ h2 d1 d2 d3
    · intro h' f1 f2 f3
      obtain ⟨o1, o2, o3, o4, o5⟩ := teZ_ok hW c4 ⟨c2, hs0.2⟩ kn
      have hK2 := KC_eq hK (fun c k hc => f3 c k (Or.inl hc))
      have hF2 : FrC h h' := fun c k hc => f3 c k (Or.inr (Or.inr hc))
      have hR := f1
      have hW := o1
      have ek : k.toNat = kn := by omega
      have hrest : ∀ v, (x = 0 → v = (teZ S s kn).2.2) → (x = 1 → v = cntz (onP (teZ S s kn).1) (nG (teZ S s kn).1)) → (x = 2 → v = (teZ S s kn).2.1) → v = teasZ S k s x := by
        intro v q0 q1 q2
        unfold teasZ
        rw [if_neg (by omega), if_neg (by omega), ek]
        by_cases e0 : x = 0
        · rw [if_pos e0]; exact q0 e0
        · rw [if_neg e0]
          by_cases e1 : x = 1
          · rw [if_pos e1]; exact q1 e1
          · rw [if_neg e1]; exact q2 (by omega)
      refine xj_iload (pc2 := 63) dX6_teas_61 rfl rfl ?_
      refine xj_iload_n (pc2 := 64) dX6_teas_63 rfl rfl rfl ?_
      refine xj_cmp_ge (pc2 := 67) (tgt := 104) dX6_teas_64 rfl rfl (by omega) (by omega) (fun c_64 => ?_) (fun c_64 => by exfalso; omega)
      refine xj_iload_n (pc2 := 105) dX6_teas_104 rfl rfl rfl ?_
      refine tsw_X6_teas_105 (by omega) (fun c_105 => ?_) (fun c_105 => ?_) (fun c_105 => ?_)
      · -- 132
        refine xj_iload (pc2 := 134) dX6_teas_132 rfl rfl ?_
        refine xj_iret dX6_teas_134 rfl ?_
        exact q_eq (hrest _ (fun _ => rfl) (fun q => by exfalso; omega) (fun q => by exfalso; omega)) (hq _ hK2 hF2)
      · -- 135
        refine xj_aload_n (pc2 := 136) dX6_teas_135 rfl rfl rfl ?_
        refine xj_getRn (pc2 := 139) (c2 := 4) fok_X6_26 dX6_teas_136 rfl rfl rfl rfl rfl ?_
        refine xj_V0I (pc2 := 142) (d2 := 2) mok_X5_countOnHands ml_X6_235 ima_yX5_countOnHands sel_yX5_countOnHands rfl rfl dX6_teas_139 rfl rfl (by decide) (by decide) (Nat.le_of_ble_eq_true rfl) (fun _ => rfl) ?_
        refine c_X5_countOnHands (Or.inr (Or.inr rfl)) hR hW ?_
        refine xj_iret dX6_teas_142 rfl ?_
        exact q_eq (hrest _ (fun q => by exfalso; omega) (fun _ => rfl) (fun q => by exfalso; omega)) (hq _ hK2 hF2)
      · -- 143
        refine xj_aload_n (pc2 := 144) dX6_teas_143 rfl rfl rfl ?_
        refine xj_getRn (pc2 := 147) (c2 := 8) fok_X6_53 dX6_teas_144 rfl rfl rfl rfl rfl ?_
        refine xj_getI (pc2 := 150) (kz := 0) fok_X6_225 dX6_teas_147 rfl rfl rfl (by decide) rfl (by first | assumption | rfl) ?_
        refine xj_iret dX6_teas_150 rfl ?_
        exact q_eq (hrest _ (fun q => by exfalso; omega) (fun q => by exfalso; omega) (fun _ => rfl)) (hq _ hK2 hF2)
    · intro j hj ih h' f1 f2 f3
      obtain ⟨o1, o2, o3, o4, o5⟩ := teZ_ok hW c4 ⟨c2, hs0.2⟩ j
      have hws := cbd_wf o1 (by rw [o2]; exact c4) (teZ S s j).2.1
      have hwp := WF_pass hws
      refine xj_iload (pc2 := 63) dX6_teas_61 rfl rfl ?_
      refine xj_iload_n (pc2 := 64) dX6_teas_63 rfl rfl rfl ?_
      refine xj_cmp_ge (pc2 := 67) (tgt := 104) dX6_teas_64 rfl rfl (by omega) (by omega) (fun c_64 => by exfalso; omega) (fun c_64 => ?_)
      refine xj_aload_n (pc2 := 68) dX6_teas_67 rfl rfl rfl ?_
      refine xj_getRn (pc2 := 71) (c2 := 4) fok_X6_26 dX6_teas_68 rfl rfl rfl rfl rfl ?_
      refine xj_aload_n (pc2 := 72) dX6_teas_71 rfl rfl rfl ?_
      refine xj_getRn (pc2 := 75) (c2 := 8) fok_X6_53 dX6_teas_72 rfl rfl rfl rfl rfl ?_
      refine xj_V1V (pc2 := 78) (d2 := 2) mok_X5_changeByDraws ml_X6_228 ima_yX5_changeByDraws sel_yX5_changeByDraws rfl rfl dX6_teas_75 rfl rfl (by decide) (by decide) (Nat.le_of_ble_eq_true rfl) (fun _ => rfl) ?_
      refine c_X5_changeByDraws (Or.inr (Or.inr rfl)) f1 o1 (by rw [o2]; exact c4) f2 (by omega) ?_
      intro h3 q1 q2 q3
      refine xj_aload_n (pc2 := 79) dX6_teas_78 rfl rfl rfl ?_
      refine xj_getRn (pc2 := 82) (c2 := 4) fok_X6_26 dX6_teas_79 rfl rfl rfl rfl rfl ?_
      refine xj_V0V (pc2 := 85) (d2 := 1) mok_X5_passHour ml_X6_173 ima_yX5_passHour sel_yX5_passHour rfl rfl dX6_teas_82 rfl rfl (by decide) (by decide) (Nat.le_of_ble_eq_true rfl) (fun _ => rfl) ?_
      refine c_X5_passHour (Or.inr (Or.inr rfl)) q1 hws ?_
      intro h4 q4 q5
      refine xj_iload (pc2 := 87) dX6_teas_85 rfl rfl ?_
      refine xj_aload_n (pc2 := 88) dX6_teas_87 rfl rfl rfl ?_
      refine xj_getRn (pc2 := 91) (c2 := 4) fok_X6_26 dX6_teas_88 rfl rfl rfl rfl rfl ?_
      refine xj_iconst (pc2 := 92) dX6_teas_91 rfl ?_
      refine xj_V1I (pc2 := 95) (d2 := 4) mok_X5_countDoing ml_X6_232 ima_yX5_countDoing sel_yX5_countDoing rfl rfl dX6_teas_92 rfl rfl (by decide) (by decide) (Nat.le_of_ble_eq_true rfl) (fun _ => rfl) ?_
      refine c_X5_countDoing (Or.inr (Or.inr rfl)) q4 hwp (by omega) ?_
      refine xj_iadd (pc2 := 96) dX6_teas_95 rfl ?_
      refine xj_istore4 (pc2 := 98) dX6_teas_96 rfl (by decide) rfl ?_
      refine xj_iinc5 (pc2 := 101) dX6_teas_98 rfl (by decide) rfl ?_
      refine xj_goto (tgt := 61) dX6_teas_101 rfl ?_
      exact ih h4 q4 ((q5 8 0 (by decide) (by decide)).trans q2) (fun c i hc => ((q5 c i (by unfold LC at hc; omega) (by unfold LC at hc; unfold ch; omega)).trans (q3 c i (by unfold LC at hc; omega) (by unfold LC at hc; unfold ch; omega) (by unfold LC at hc; unfold ch; omega))).trans (f3 c i hc))
  refine cj_of (lo := [some (.ref 0), some (vi k), some (vi s), some (vi x), none, none]) mok_X6_teas (fun _ => rfl) (fun _ => Nat.le_of_ble_eq_true rfl) ?_
  refine xj_iload_n (pc2 := 1) dX6_teas_0 rfl rfl rfl ?_
  refine xj_iconst (pc2 := 2) dX6_teas_1 rfl ?_
  refine xj_bipush (pc2 := 4) dX6_teas_2 rfl (by decide) ?_
  refine xj_S3I (pc2 := 7) (d2 := 0) mok_X6_within ml_X6_57 sta_yX6_within dX6_teas_4 rfl rfl (by decide) (by decide) (Nat.le_of_ble_eq_true rfl) (fun _ => rfl) ?_
  refine c_X6_within (by omega) (by omega) (by omega) ?_ ?_
  · -- X6_within = 1
    intro c_4
    refine xj_if_eq (pc2 := 10) (tgt := 23) dX6_teas_7 rfl rfl (by omega) (fun c_7 => absurd c_7 (by decide)) (fun c_7 => ?_)
    refine xj_iload_n (pc2 := 11) dX6_teas_10 rfl rfl rfl ?_
    refine xj_if_lt (pc2 := 14) (tgt := 23) dX6_teas_11 rfl rfl (by omega) (fun c_11 => ?_) (fun c_11 => ?_)
    · -- 23
      refine xj_bipush (pc2 := 25) dX6_teas_23 rfl (by decide) ?_
      refine xj_iret dX6_teas_25 rfl ?_
      exact q_eq (by unfold teasZ; rw [if_pos (by omega)]) (hq h hK FrC_rf)
    · -- 14
      refine xj_iload_n (pc2 := 15) dX6_teas_14 rfl rfl rfl ?_
      refine xj_iconst (pc2 := 16) dX6_teas_15 rfl ?_
      refine xj_iconst (pc2 := 17) dX6_teas_16 rfl ?_
      refine xj_S3I (pc2 := 20) (d2 := 0) mok_X6_within ml_X6_57 sta_yX6_within dX6_teas_17 rfl rfl (by decide) (by decide) (Nat.le_of_ble_eq_true rfl) (fun _ => rfl) ?_
      refine c_X6_within (by omega) (by omega) (by omega) ?_ ?_
      · -- X6_within = 1
        intro c_17
        refine xj_if_ne (pc2 := 23) (tgt := 26) dX6_teas_20 rfl rfl (by omega) (fun c_20 => ?_) (fun c_20 => absurd c_20 (by decide))
        refine xj_aload_n (pc2 := 27) dX6_teas_26 rfl rfl rfl ?_
        refine xj_V0I (pc2 := 30) (d2 := 0) mok_X6_hasShop ml_X6_167 ima_yX6_hasShop sel_yX6_hasShop rfl rfl dX6_teas_27 rfl rfl (by decide) (by decide) (Nat.le_of_ble_eq_true rfl) (fun _ => rfl) ?_
        refine c_X6_hasShop hn (by omega) ?_ ?_
        · -- X6_hasShop = 1
          intro c_27
          refine xj_if_ne (pc2 := 33) (tgt := 36) dX6_teas_30 rfl rfl (by omega) (fun c_30 => ?_) (fun c_30 => absurd c_30 (by decide))
          refine xj_aload_n (pc2 := 37) dX6_teas_36 rfl rfl rfl ?_
          refine xj_getRn (pc2 := 40) (c2 := 4) fok_X6_26 dX6_teas_37 rfl rfl rfl rfl rfl ?_
          refine xj_aload_n (pc2 := 41) dX6_teas_40 rfl rfl rfl ?_
          refine xj_getRn (pc2 := 44) (c2 := 2) fok_X6_19 dX6_teas_41 rfl rfl rfl rfl rfl ?_
          refine xj_V1V (pc2 := 47) (d2 := 1) mok_X5_copyFrom ml_X6_222 ima_yX5_copyFrom sel_yX5_copyFrom rfl rfl dX6_teas_44 rfl rfl (by decide) (by decide) (Nat.le_of_ble_eq_true rfl) (fun _ => rfl) ?_
          refine c_X5_copyFrom (Or.inr (Or.inr rfl)) (Or.inl rfl) (by decide) hR hW ?_
          intro h2 hR2 hf2
          have hz : ∀ c k, c ≠ 4 → (c < 65 ∨ 75 ≤ c) → h2 c k = h c k := fun c k q1 q2 => hf2 c k q1 (fun i hi => by unfold ch; omega)
          refine xj_aload_n (pc2 := 48) dX6_teas_47 rfl rfl rfl ?_
          refine xj_getRn (pc2 := 51) (c2 := 8) fok_X6_53 dX6_teas_48 rfl rfl rfl rfl rfl ?_
          refine xj_iload_n (pc2 := 52) dX6_teas_51 rfl rfl rfl ?_
          refine xj_putI (pc2 := 55) (kz := 0) fok_X6_225 dX6_teas_52 rfl rfl rfl rfl rfl ?_
          refine xj_iconst (pc2 := 56) dX6_teas_55 rfl ?_
          refine xj_istore4 (pc2 := 58) dX6_teas_56 rfl (by decide) rfl ?_
          refine xj_iconst (pc2 := 59) dX6_teas_58 rfl ?_
          refine xj_istore5 (pc2 := 61) dX6_teas_59 rfl (by decide) rfl ?_
          exact key _ (by omega) (by omega) (by omega) (by omega) (RC_eq hR2 (fun k => hset_nc (by decide)) (fun i k hi => hset_nc (by unfold ch; omega))) (hset_eq _ _ _ _) (fun c j hc => (hset_nc (by unfold LC at hc; omega)).trans (hz c j (by unfold LC at hc; omega) (by unfold LC at hc; omega)))
        · -- X6_hasShop = 0
          intro c_27
          refine xj_if_ne (pc2 := 33) (tgt := 36) dX6_teas_30 rfl rfl (by omega) (fun c_30 => absurd c_30 (by decide)) (fun c_30 => ?_)
          refine xj_bipush (pc2 := 35) dX6_teas_33 rfl (by decide) ?_
          refine xj_iret dX6_teas_35 rfl ?_
          exact q_eq (by unfold teasZ; rw [if_neg (by omega), if_pos (by omega)]) (hq h hK FrC_rf)
      · -- X6_within = 0
        intro c_17
        refine xj_if_ne (pc2 := 23) (tgt := 26) dX6_teas_20 rfl rfl (by omega) (fun c_20 => absurd c_20 (by decide)) (fun c_20 => ?_)
        refine xj_bipush (pc2 := 25) dX6_teas_23 rfl (by decide) ?_
        refine xj_iret dX6_teas_25 rfl ?_
        exact q_eq (by unfold teasZ; rw [if_pos (by omega)]) (hq h hK FrC_rf)
  · -- X6_within = 0
    intro c_4
    refine xj_if_eq (pc2 := 10) (tgt := 23) dX6_teas_7 rfl rfl (by omega) (fun c_7 => ?_) (fun c_7 => absurd c_7 (by decide))
    refine xj_bipush (pc2 := 25) dX6_teas_23 rfl (by decide) ?_
    refine xj_iret dX6_teas_25 rfl ?_
    exact q_eq (by unfold teasZ; rw [if_pos (by omega)]) (hq h hK FrC_rf)
