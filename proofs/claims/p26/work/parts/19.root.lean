/-! the class's own calls -/
def KC (S I : Sh) (len : Int) (pg : Int → Int) (im tr td : Int) (h : Hp) : Prop := RC 2 S h ∧ (im = 1 → RC 3 I h) ∧ RP len pg h ∧ h 0 8 = im ∧ h 0 9 = tr ∧ h 0 10 = td
def KW (S I : Sh) (im tr td : Int) : Prop := WF S ∧ S 6 2 ≤ 999 ∧ (im = 0 ∨ im = 1) ∧ (im = 1 → WF I ∧ I 6 2 ≤ 999) ∧ (0 ≤ tr ∧ tr ≤ 1000000) ∧ (0 ≤ td ∧ td ≤ 20)
def LC (c : Nat) : Prop := c ≤ 3 ∨ c = 17 ∨ (33 ≤ c ∧ c ≤ 42) ∨ (49 ≤ c ∧ c ≤ 58)
def FrC (h h' : Hp) : Prop := ∀ c k, (c = 9 ∨ 145 ≤ c) → h' c k = h c k
theorem FrC_rf {h : Hp} : FrC h h := fun _ _ _ => rfl
theorem FrC_tr {h h2 h3 : Hp} (a : FrC h h2) (b : FrC h2 h3) : FrC h h3 := fun c k hc => (b c k hc).trans (a c k hc)
theorem RP_eq {len : Int} {pg : Int → Int} {h h' : Hp} (hP : RP len pg h) (e1 : ∀ k, h' 1 k = h 1 k) (e2 : ∀ k, h' 17 k = h 17 k) : RP len pg h' := ⟨by rw [e1, hP.1], hP.2.1, fun i a b => by rw [e2]; exact hP.2.2 i a b⟩
theorem KC_eq {S I : Sh} {len : Int} {pg : Int → Int} {im tr td : Int} {h h' : Hp} (hK : KC S I len pg im tr td h) (e : ∀ c k, LC c → h' c k = h c k) : KC S I len pg im tr td h' := by
  obtain ⟨k1, k2, k3, k4, k5, k6⟩ := hK
  refine ⟨RC_eq k1 (fun k => e 2 k (by unfold LC; omega)) (fun i k hi => e _ k (by unfold LC ch; omega)), fun q => RC_eq (k2 q) (fun k => e 3 k (by unfold LC; omega)) (fun i k hi => e _ k (by unfold LC ch; omega)), RP_eq k3 (fun k => e 1 k (by unfold LC; omega)) (fun k => e 17 k (by unfold LC; omega)), ?_, ?_, ?_⟩
  · rw [e 0 _ (by unfold LC; omega), k4]
  · rw [e 0 _ (by unfold LC; omega), k5]
  · rw [e 0 _ (by unfold LC; omega), k6]
def gloveZ (S : Sh) (g x : Int) : Int := if ¬ (0 ≤ g ∧ g < S 6 0) then -101 else if x = 0 then S 0 g else if x = 1 then S 1 g else if x = 2 then S 2 g else if x = 3 then tz S g 0 else if x = 4 then hold (S 3 g) else if x = 5 then side (S 3 g) else if x = 6 then bsum (quarP S g) (nG S) else if x = 7 then pmZ S g else if x = 8 then bfZ S g else -102
def asZ (S : Sh) (g k : Int) : Int := if ¬ (0 ≤ g ∧ g < S 6 0) then -101 else if ¬ (0 ≤ k ∧ k ≤ 4) then -102 else if k = 0 ∨ S 0 g = k ∨ (k = 1 ∧ S 0 g = 4) then g else -1
def wishN (S : Sh) (w : Int) : Int := if wishZ S w (moodN S w) then 1 else 0
def wearerZ (S : Sh) (w x : Int) : Int := if ¬ (0 ≤ w ∧ w < S 6 1) then -101 else if x = 0 then S 4 w else if x = 1 then moodN S w else if x = 2 then goZ S (2 * w + 0) else if x = 3 then goZ S (2 * w + 1) else if x = 4 then doz (moodN S w) else if x = 5 then S 5 w else if x = 6 then wishN S w else if x = 7 then cgZ S w else if x = 8 then stZ S w else -102
def moodV (S : Sh) (w t : Int) : Int := if ¬ (0 ≤ w ∧ w < S 6 1) then -101 else if ¬ (0 ≤ t ∧ t ≤ 40) then -102 else moodZ S w (bsum (heldP S w) (nG S)) t
def countZ (S : Sh) (len tr td x : Int) : Int := if x = 0 then S 6 0 else if x = 1 then S 6 1 else if x = 2 then cntz (onP S) (nG S) else if x = 3 then S 6 2 else if x = 4 then cntz (doP S 1) (nW S) else if x = 5 then cntz (doP S 0) (nW S) else if x = 6 then cntz (wiP S) (nW S) else if x = 7 then ssum (fun g => pc (bsum (quarP S g) (nG S))) (nG S) / 2 else if x = 8 then ssum (fun g => tz S g 0) (nG S) else if x = 9 then S 6 3 else if x = 10 then len else if x = 11 then tr else if x = 12 then td else -102
def letV (len c : Int) : Int := if ¬ (32 ≤ c ∧ c ≤ 126) then -102 else if len < 26 then len + 1 else -104
def letL (len c : Int) : Int := if (32 ≤ c ∧ c ≤ 126) ∧ len < 26 then len + 1 else len
def letP (len c : Int) (pg : Int → Int) : Int → Int := if (32 ≤ c ∧ c ≤ 126) ∧ len < 26 then (fun i => if i = len then c else pg i) else pg
theorem c_X6_letter {S I : Sh} {len c : Int} {pg : Int → Int} {im tr td : Int} {h : Hp} {Q : Int → Hp → Prop} (hK : KC S I len pg im tr td h) (hc0 : -2147483648 ≤ c ∧ c ≤ 2147483647) (hq : ∀ h', KC S I (letL len c) (letP len c pg) im tr td h' → FrC h h' → Q (letV len c) h') : CJ 2 kX6_letter [.ref 0, vi c] h Q := by
  obtain ⟨hR, hI, hP, hk8, hk9, hk10⟩ := id hK
  obtain ⟨hl, hlr, hpg⟩ := id hP
  unfold letL letP letV at hq
  refine cj_of (lo := [some (.ref 0), some (vi c)]) mok_X6_letter (fun _ => rfl) (fun _ => Nat.le_of_ble_eq_true rfl) ?_
  refine xj_iload_n (pc2 := 1) dX6_letter_0 rfl rfl rfl ?_
  refine xj_bipush (pc2 := 3) dX6_letter_1 rfl (by decide) ?_
  refine xj_bipush (pc2 := 5) dX6_letter_3 rfl (by decide) ?_
  refine xj_S3I (pc2 := 8) (d2 := 0) mok_X6_within ml_X6_57 sta_yX6_within dX6_letter_5 rfl rfl (by decide) (by decide) (Nat.le_of_ble_eq_true rfl) (fun _ => rfl) ?_
  refine c_X6_within (by omega) (by omega) (by omega) ?_ ?_
  · -- X6_within = 1
    intro c_5
    refine xj_if_ne (pc2 := 11) (tgt := 14) dX6_letter_8 rfl rfl (by omega) (fun c_8 => ?_) (fun c_8 => absurd c_8 (by decide))
    refine xj_aload_n (pc2 := 15) dX6_letter_14 rfl rfl rfl ?_
    refine xj_getRn (pc2 := 18) (c2 := 1) fok_X6_12 dX6_letter_15 rfl rfl rfl rfl rfl ?_
    refine xj_iload_n (pc2 := 19) dX6_letter_18 rfl rfl rfl ?_
    refine xj_V1I (pc2 := 22) (d2 := 1) mok_X4_add ml_X6_61 ima_yX4_add sel_yX4_add rfl rfl dX6_letter_19 rfl rfl (by decide) (by decide) (Nat.le_of_ble_eq_true rfl) (fun _ => rfl) ?_
    refine c_X4_add hP ?_ ?_
    · -- X4_add = 1
      intro c_19
      refine xj_if_eq (pc2 := 25) (tgt := 35) dX6_letter_22 rfl rfl (by omega) (fun c_22 => absurd c_22 (by decide)) (fun c_22 => ?_)
      refine xj_aload_n (pc2 := 26) dX6_letter_25 rfl rfl rfl ?_
      refine xj_getRn (pc2 := 29) (c2 := 1) fok_X6_12 dX6_letter_26 rfl rfl rfl rfl rfl ?_
      refine xj_getI (pc2 := 32) (kz := 1) fok_X6_65 dX6_letter_29 rfl rfl rfl (by decide) rfl (hset_eq _ _ _ _) ?_
      refine xj_goto (tgt := 37) dX6_letter_32 rfl ?_
      refine xj_iret dX6_letter_37 rfl ?_
      first
      | (rw [if_pos ⟨c_5, c_19⟩, if_pos ⟨c_5, c_19⟩, if_neg (fun q => q c_5), if_pos c_19] at hq
         refine hq _ ⟨RC_eq hR (fun k => by rw [hset_nc (by decide), hset_nc (by decide)]) (fun i k hi => by rw [hset_nc (by unfold ch; omega), hset_nc (by unfold ch; omega)]), fun q => RC_eq (hI q) (fun k => by rw [hset_nc (by decide), hset_nc (by decide)]) (fun i k hi => by rw [hset_nc (by unfold ch; omega), hset_nc (by unfold ch; omega)]), ⟨hset_eq _ _ _ _, by omega, fun i a b => ?_⟩, hk8, hk9, hk10⟩ (fun c k hc => by rw [hset_nc (by omega), hset_nc (by omega)])
         rw [hset_nc (by decide)]
         dsimp only
         by_cases e : i = len
         · subst e
           rw [hset_eq, if_pos rfl]
           exact ⟨rfl, c_5.1, c_5.2⟩
         · rw [hset_nk e, if_neg e]
           exact hpg i a (by omega))
      | (rw [if_neg (fun q => c_19 q.2), if_neg (fun q => c_19 q.2), if_neg (fun q => q c_5), if_neg c_19] at hq
         exact hq h hK FrC_rf)
    · -- X4_add = 0
      intro c_19
      refine xj_if_eq (pc2 := 25) (tgt := 35) dX6_letter_22 rfl rfl (by omega) (fun c_22 => ?_) (fun c_22 => absurd c_22 (by decide))
      refine xj_bipush (pc2 := 37) dX6_letter_35 rfl (by decide) ?_
      refine xj_iret dX6_letter_37 rfl ?_
      first
      | (rw [if_pos ⟨c_5, c_19⟩, if_pos ⟨c_5, c_19⟩, if_neg (fun q => q c_5), if_pos c_19] at hq
         refine hq _ ⟨RC_eq hR (fun k => by rw [hset_nc (by decide), hset_nc (by decide)]) (fun i k hi => by rw [hset_nc (by unfold ch; omega), hset_nc (by unfold ch; omega)]), fun q => RC_eq (hI q) (fun k => by rw [hset_nc (by decide), hset_nc (by decide)]) (fun i k hi => by rw [hset_nc (by unfold ch; omega), hset_nc (by unfold ch; omega)]), ⟨hset_eq _ _ _ _, by omega, fun i a b => ?_⟩, hk8, hk9, hk10⟩ (fun c k hc => by rw [hset_nc (by omega), hset_nc (by omega)])
         rw [hset_nc (by decide)]
         dsimp only
         by_cases e : i = len
         · subst e
           rw [hset_eq, if_pos rfl]
           exact ⟨rfl, c_5.1, c_5.2⟩
         · rw [hset_nk e, if_neg e]
           exact hpg i a (by omega))
      | (rw [if_neg (fun q => c_19 q.2), if_neg (fun q => c_19 q.2), if_neg (fun q => q c_5), if_neg c_19] at hq
         exact hq h hK FrC_rf)
  · -- X6_within = 0
    intro c_5
    refine xj_if_ne (pc2 := 11) (tgt := 14) dX6_letter_8 rfl rfl (by omega) (fun c_8 => absurd c_8 (by decide)) (fun c_8 => ?_)
    refine xj_bipush (pc2 := 13) dX6_letter_11 rfl (by decide) ?_
    refine xj_iret dX6_letter_13 rfl ?_
    rw [if_neg (fun q => c_5 q.1), if_neg (fun q => c_5 q.1), if_pos c_5] at hq
    exact hq h hK FrC_rf
theorem c_X6_fault {S I : Sh} {len : Int} {pg : Int → Int} {im tr td : Int} {h : Hp} {Q : Int → Hp → Prop} (hK : KC S I len pg im tr td h) (hq : ∀ h', KC S I len pg im tr td h' → FrC h h' → Q (fltZ len pg) h') : CJ 4 kX6_fault [.ref 0] h Q := by
  obtain ⟨hR, hI, hP, hk8, hk9, hk10⟩ := id hK
  refine cj_of (lo := [some (.ref 0)]) mok_X6_fault (fun _ => rfl) (fun _ => Nat.le_of_ble_eq_true rfl) ?_
  refine xj_aload_n (pc2 := 1) dX6_fault_0 rfl rfl rfl ?_
  refine xj_getRn (pc2 := 4) (c2 := 1) fok_X6_12 dX6_fault_1 rfl rfl rfl rfl rfl ?_
  refine xj_V0I (pc2 := 7) (d2 := 3) mok_X4_firstFault ml_X6_69 ima_yX4_firstFault sel_yX4_firstFault rfl rfl dX6_fault_4 rfl rfl (by decide) (by decide) (Nat.le_of_ble_eq_true rfl) (fun _ => rfl) ?_
  refine c_X4_firstFault hP ?_
  refine xj_iret dX6_fault_7 rfl ?_
  exact hq h hK FrC_rf
theorem c_X6_glove {S I : Sh} {len g x : Int} {pg : Int → Int} {im tr td : Int} {h : Hp} {Q : Int → Hp → Prop} (hK : KC S I len pg im tr td h) (hKW : KW S I im tr td) (hg : -2147483648 ≤ g ∧ g ≤ 2147483647) (hx : -2147483648 ≤ x ∧ x ≤ 2147483647) (hq : ∀ h', KC S I len pg im tr td h' → FrC h h' → Q (gloveZ S g x) h') : CJ 4 kX6_glove [.ref 0, vi g, vi x] h Q := by
  obtain ⟨hR, hI, hP, hk8, hk9, hk10⟩ := id hK
  have hW := hKW.1
  obtain ⟨⟨hn, hw, hh, hs⟩, hG, hN, hE⟩ := id hR
  have hnn := wf_n hW
  refine cj_of (lo := [some (.ref 0), some (vi g), some (vi x)]) mok_X6_glove (fun _ => rfl) (fun _ => Nat.le_of_ble_eq_true rfl) ?_
  refine xj_aload_n (pc2 := 1) dX6_glove_0 rfl rfl rfl ?_
  refine xj_getRn (pc2 := 4) (c2 := 2) fok_X6_19 dX6_glove_1 rfl rfl rfl rfl rfl ?_
  refine xj_iload_n (pc2 := 5) dX6_glove_4 rfl rfl rfl ?_
  refine xj_V1I (pc2 := 8) (d2 := 0) mok_X5_hasGlove ml_X6_91 ima_yX5_hasGlove sel_yX5_hasGlove rfl rfl dX6_glove_5 rfl rfl (by decide) (by decide) (Nat.le_of_ble_eq_true rfl) (fun _ => rfl) ?_
  refine c_X5_hasGlove (Or.inl rfl) hR hW (by omega) ?_ ?_
  · -- X5_hasGlove = 1
    intro c_5
    refine xj_if_ne (pc2 := 11) (tgt := 14) dX6_glove_8 rfl rfl (by omega) (fun c_8 => ?_) (fun c_8 => absurd c_8 (by decide))
    refine xj_iload_n (pc2 := 15) dX6_glove_14 rfl rfl rfl ?_
    refine tsw_X6_glove_15 (by omega) (fun c_15 => ?_) (fun c_15 => ?_) (fun c_15 => ?_) (fun c_15 => ?_) (fun c_15 => ?_) (fun c_15 => ?_) (fun c_15 => ?_) (fun c_15 => ?_) (fun c_15 => ?_) (fun c_15 => ?_)
    · -- 64
      refine xj_aload_n (pc2 := 65) dX6_glove_64 rfl rfl rfl ?_
      refine xj_getRn (pc2 := 68) (c2 := 2) fok_X6_19 dX6_glove_65 rfl rfl rfl rfl rfl ?_
      refine xj_getRn (pc2 := 71) (c2 := 33) fok_X6_94 dX6_glove_68 rfl rfl rfl rfl rfl ?_
      refine xj_iload_n (pc2 := 72) dX6_glove_71 rfl rfl rfl ?_
      refine xj_S2I (pc2 := 75) (d2 := 0) mok_X6_at ml_X6_98 sta_yX6_at dX6_glove_72 rfl rfl (by decide) (by decide) (Nat.le_of_ble_eq_true rfl) (fun _ => rfl) ?_
      refine c_X6_at rfl (by omega) (by decide) (hG _ (by omega) (by omega)).1 ?_
      refine xj_iret dX6_glove_75 rfl ?_
      first
      | exact q_eq (by rw [c_15, gloveZ, if_neg (fun q => q c_5)]; rfl) (hq h hK FrC_rf)
      | exact q_eq (by unfold gloveZ; (repeat' split) <;> first | (exfalso; omega) | rfl | omega) (hq h hK FrC_rf)
    · -- 76
      refine xj_aload_n (pc2 := 77) dX6_glove_76 rfl rfl rfl ?_
      refine xj_getRn (pc2 := 80) (c2 := 2) fok_X6_19 dX6_glove_77 rfl rfl rfl rfl rfl ?_
      refine xj_getRn (pc2 := 83) (c2 := 34) fok_X6_102 dX6_glove_80 rfl rfl rfl rfl rfl ?_
      refine xj_iload_n (pc2 := 84) dX6_glove_83 rfl rfl rfl ?_
      refine xj_S2I (pc2 := 87) (d2 := 0) mok_X6_at ml_X6_98 sta_yX6_at dX6_glove_84 rfl rfl (by decide) (by decide) (Nat.le_of_ble_eq_true rfl) (fun _ => rfl) ?_
      refine c_X6_at rfl (by omega) (by decide) (hG _ (by omega) (by omega)).2.1 ?_
      refine xj_iret dX6_glove_87 rfl ?_
      first
      | exact q_eq (by rw [c_15, gloveZ, if_neg (fun q => q c_5)]; rfl) (hq h hK FrC_rf)
      | exact q_eq (by unfold gloveZ; (repeat' split) <;> first | (exfalso; omega) | rfl | omega) (hq h hK FrC_rf)
    · -- 88
      refine xj_aload_n (pc2 := 89) dX6_glove_88 rfl rfl rfl ?_
      refine xj_getRn (pc2 := 92) (c2 := 2) fok_X6_19 dX6_glove_89 rfl rfl rfl rfl rfl ?_
      refine xj_getRn (pc2 := 95) (c2 := 35) fok_X6_105 dX6_glove_92 rfl rfl rfl rfl rfl ?_
      refine xj_iload_n (pc2 := 96) dX6_glove_95 rfl rfl rfl ?_
      refine xj_S2I (pc2 := 99) (d2 := 0) mok_X6_at ml_X6_98 sta_yX6_at dX6_glove_96 rfl rfl (by decide) (by decide) (Nat.le_of_ble_eq_true rfl) (fun _ => rfl) ?_
      refine c_X6_at rfl (by omega) (by decide) (hG _ (by omega) (by omega)).2.2.1 ?_
      refine xj_iret dX6_glove_99 rfl ?_
      first
      | exact q_eq (by rw [c_15, gloveZ, if_neg (fun q => q c_5)]; rfl) (hq h hK FrC_rf)
      | exact q_eq (by unfold gloveZ; (repeat' split) <;> first | (exfalso; omega) | rfl | omega) (hq h hK FrC_rf)
    · -- 100
      refine xj_aload_n (pc2 := 101) dX6_glove_100 rfl rfl rfl ?_
      refine xj_getRn (pc2 := 104) (c2 := 2) fok_X6_19 dX6_glove_101 rfl rfl rfl rfl rfl ?_
      refine xj_iload_n (pc2 := 105) dX6_glove_104 rfl rfl rfl ?_
      refine xj_iconst (pc2 := 106) dX6_glove_105 rfl ?_
      refine xj_V2I (pc2 := 109) (d2 := 1) mok_X5_temper ml_X6_108 ima_yX5_temper sel_yX5_temper rfl rfl dX6_glove_106 rfl rfl (by decide) (by decide) (Nat.le_of_ble_eq_true rfl) (fun _ => rfl) ?_
      refine c_X5_temper (Or.inl rfl) hR hW (by omega) (by omega) ?_
      refine xj_iret dX6_glove_109 rfl ?_
      first
      | exact q_eq (by rw [c_15, gloveZ, if_neg (fun q => q c_5)]; rfl) (hq h hK FrC_rf)
      | exact q_eq (by unfold gloveZ; (repeat' split) <;> first | (exfalso; omega) | rfl | omega) (hq h hK FrC_rf)
    · -- 110
      refine xj_aload_n (pc2 := 111) dX6_glove_110 rfl rfl rfl ?_
      refine xj_getRn (pc2 := 114) (c2 := 2) fok_X6_19 dX6_glove_111 rfl rfl rfl rfl rfl ?_
      refine xj_getRn (pc2 := 117) (c2 := 36) fok_X6_112 dX6_glove_114 rfl rfl rfl rfl rfl ?_
      refine xj_iload_n (pc2 := 118) dX6_glove_117 rfl rfl rfl ?_
      refine xj_S2I (pc2 := 121) (d2 := 0) mok_X6_at ml_X6_98 sta_yX6_at dX6_glove_118 rfl rfl (by decide) (by decide) (Nat.le_of_ble_eq_true rfl) (fun _ => rfl) ?_
      refine c_X6_at rfl (by omega) (by decide) (hG _ (by omega) (by omega)).2.2.2.1 ?_
      refine xj_iret dX6_glove_121 rfl ?_
      first
      | exact q_eq (by rw [c_15, gloveZ, if_neg (fun q => q c_5)]; rfl) (hq h hK FrC_rf)
      | exact q_eq (by unfold gloveZ; (repeat' split) <;> first | (exfalso; omega) | rfl | omega) (hq h hK FrC_rf)
    · -- 122
      refine xj_aload_n (pc2 := 123) dX6_glove_122 rfl rfl rfl ?_
      refine xj_getRn (pc2 := 126) (c2 := 2) fok_X6_19 dX6_glove_123 rfl rfl rfl rfl rfl ?_
      refine xj_getRn (pc2 := 129) (c2 := 37) fok_X6_115 dX6_glove_126 rfl rfl rfl rfl rfl ?_
      refine xj_iload_n (pc2 := 130) dX6_glove_129 rfl rfl rfl ?_
      refine xj_S2I (pc2 := 133) (d2 := 0) mok_X6_at ml_X6_98 sta_yX6_at dX6_glove_130 rfl rfl (by decide) (by decide) (Nat.le_of_ble_eq_true rfl) (fun _ => rfl) ?_
      refine c_X6_at rfl (by omega) (by decide) (hG _ (by omega) (by omega)).2.2.2.2 ?_
      refine xj_iret dX6_glove_133 rfl ?_
      first
      | exact q_eq (by rw [c_15, gloveZ, if_neg (fun q => q c_5)]; rfl) (hq h hK FrC_rf)
      | exact q_eq (by unfold gloveZ; (repeat' split) <;> first | (exfalso; omega) | rfl | omega) (hq h hK FrC_rf)
    · -- 134
      refine xj_aload_n (pc2 := 135) dX6_glove_134 rfl rfl rfl ?_
      refine xj_getRn (pc2 := 138) (c2 := 2) fok_X6_19 dX6_glove_135 rfl rfl rfl rfl rfl ?_
      refine xj_iload_n (pc2 := 139) dX6_glove_138 rfl rfl rfl ?_
      refine xj_V1I (pc2 := 142) (d2 := 2) mok_X5_quarrels ml_X6_118 ima_yX5_quarrels sel_yX5_quarrels rfl rfl dX6_glove_139 rfl rfl (by decide) (by decide) (Nat.le_of_ble_eq_true rfl) (fun _ => rfl) ?_
      refine c_X5_quarrels (Or.inl rfl) hR hW (by omega) ?_
      refine xj_iret dX6_glove_142 rfl ?_
      first
      | exact q_eq (by rw [c_15, gloveZ, if_neg (fun q => q c_5)]; rfl) (hq h hK FrC_rf)
      | exact q_eq (by unfold gloveZ; (repeat' split) <;> first | (exfalso; omega) | rfl | omega) (hq h hK FrC_rf)
    · -- 143
      refine xj_aload_n (pc2 := 144) dX6_glove_143 rfl rfl rfl ?_
      refine xj_getRn (pc2 := 147) (c2 := 2) fok_X6_19 dX6_glove_144 rfl rfl rfl rfl rfl ?_
      refine xj_iload_n (pc2 := 148) dX6_glove_147 rfl rfl rfl ?_
      refine xj_V1I (pc2 := 151) (d2 := 2) mok_X5_possibleMarks ml_X6_122 ima_yX5_possibleMarks sel_yX5_possibleMarks rfl rfl dX6_glove_148 rfl rfl (by decide) (by decide) (Nat.le_of_ble_eq_true rfl) (fun _ => rfl) ?_
      refine c_X5_possibleMarks (Or.inl rfl) hR hW (by omega) ?_
      refine xj_iret dX6_glove_151 rfl ?_
      first
      | exact q_eq (by rw [c_15, gloveZ, if_neg (fun q => q c_5)]; rfl) (hq h hK FrC_rf)
      | exact q_eq (by unfold gloveZ; (repeat' split) <;> first | (exfalso; omega) | rfl | omega) (hq h hK FrC_rf)
    · -- 152
      refine xj_aload_n (pc2 := 153) dX6_glove_152 rfl rfl rfl ?_
      refine xj_getRn (pc2 := 156) (c2 := 2) fok_X6_19 dX6_glove_153 rfl rfl rfl rfl rfl ?_
      refine xj_iload_n (pc2 := 157) dX6_glove_156 rfl rfl rfl ?_
      refine xj_V1I (pc2 := 160) (d2 := 3) mok_X5_bestFeel ml_X6_125 ima_yX5_bestFeel sel_yX5_bestFeel rfl rfl dX6_glove_157 rfl rfl (by decide) (by decide) (Nat.le_of_ble_eq_true rfl) (fun _ => rfl) ?_
      refine c_X5_bestFeel (Or.inl rfl) hR hW (by omega) ?_
      intro h2 hex
      have hK2 := KC_eq hK (fun c k hc => hex c k (by unfold LC at hc; unfold ch; omega))
      have hF2 : FrC h h2 := fun c k hc => hex c k (by unfold ch; omega)
      refine xj_iret dX6_glove_160 rfl ?_
      exact q_eq (by unfold gloveZ; (repeat' split) <;> first | (exfalso; omega) | rfl | omega) (hq h2 hK2 hF2)
    · -- 161
      refine xj_bipush (pc2 := 163) dX6_glove_161 rfl (by decide) ?_
      refine xj_iret dX6_glove_163 rfl ?_
      exact q_eq (by unfold gloveZ; (repeat' split) <;> first | (exfalso; omega) | rfl | omega) (hq h hK FrC_rf)
  · -- X5_hasGlove = 0
    intro c_5
    refine xj_if_ne (pc2 := 11) (tgt := 14) dX6_glove_8 rfl rfl (by omega) (fun c_8 => absurd c_8 (by decide)) (fun c_8 => ?_)
    refine xj_bipush (pc2 := 13) dX6_glove_11 rfl (by decide) ?_
    refine xj_iret dX6_glove_13 rfl ?_
    exact q_eq (by unfold gloveZ; (repeat' split) <;> first | (exfalso; omega) | rfl | omega) (hq h hK FrC_rf)
theorem c_X6_as {S I : Sh} {len g x : Int} {pg : Int → Int} {im tr td : Int} {h : Hp} {Q : Int → Hp → Prop} (hK : KC S I len pg im tr td h) (hKW : KW S I im tr td) (hg : -2147483648 ≤ g ∧ g ≤ 2147483647) (hx : -2147483648 ≤ x ∧ x ≤ 2147483647) (hq : ∀ h', KC S I len pg im tr td h' → FrC h h' → Q (asZ S g x) h') : CJ 1 kX6_as [.ref 0, vi g, vi x] h Q := by
  obtain ⟨hR, hI, hP, hk8, hk9, hk10⟩ := id hK
  have hW := hKW.1
  obtain ⟨⟨hn, hw, hh, hs⟩, hG, hN, hE⟩ := id hR
  have hnn := wf_n hW
  refine cj_of (lo := [some (.ref 0), some (vi g), some (vi x)]) mok_X6_as (fun _ => rfl) (fun _ => Nat.le_of_ble_eq_true rfl) ?_
  refine xj_aload_n (pc2 := 1) dX6_as_0 rfl rfl rfl ?_
  refine xj_getRn (pc2 := 4) (c2 := 2) fok_X6_19 dX6_as_1 rfl rfl rfl rfl rfl ?_
  refine xj_iload_n (pc2 := 5) dX6_as_4 rfl rfl rfl ?_
  refine xj_V1I (pc2 := 8) (d2 := 0) mok_X5_hasGlove ml_X6_91 ima_yX5_hasGlove sel_yX5_hasGlove rfl rfl dX6_as_5 rfl rfl (by decide) (by decide) (Nat.le_of_ble_eq_true rfl) (fun _ => rfl) ?_
  refine c_X5_hasGlove (Or.inl rfl) hR hW (by omega) ?_ ?_
  · -- X5_hasGlove = 1
    intro c_5
    refine xj_if_ne (pc2 := 11) (tgt := 14) dX6_as_8 rfl rfl (by omega) (fun c_8 => ?_) (fun c_8 => absurd c_8 (by decide))
    refine xj_iload_n (pc2 := 15) dX6_as_14 rfl rfl rfl ?_
    refine xj_iconst (pc2 := 16) dX6_as_15 rfl ?_
    refine xj_iconst (pc2 := 17) dX6_as_16 rfl ?_
    refine xj_S3I (pc2 := 20) (d2 := 0) mok_X6_within ml_X6_57 sta_yX6_within dX6_as_17 rfl rfl (by decide) (by decide) (Nat.le_of_ble_eq_true rfl) (fun _ => rfl) ?_
    refine c_X6_within (by omega) (by omega) (by omega) ?_ ?_
    · -- X6_within = 1
      intro c_17
      refine xj_if_ne (pc2 := 23) (tgt := 26) dX6_as_20 rfl rfl (by omega) (fun c_20 => ?_) (fun c_20 => absurd c_20 (by decide))
      refine xj_aload_n (pc2 := 27) dX6_as_26 rfl rfl rfl ?_
      refine xj_getRn (pc2 := 30) (c2 := 2) fok_X6_19 dX6_as_27 rfl rfl rfl rfl rfl ?_
      refine xj_getRn (pc2 := 33) (c2 := 33) fok_X6_94 dX6_as_30 rfl rfl rfl rfl rfl ?_
      refine xj_iload_n (pc2 := 34) dX6_as_33 rfl rfl rfl ?_
      refine xj_S2I (pc2 := 37) (d2 := 0) mok_X6_at ml_X6_98 sta_yX6_at dX6_as_34 rfl rfl (by decide) (by decide) (Nat.le_of_ble_eq_true rfl) (fun _ => rfl) ?_
      refine c_X6_at rfl (by omega) (by decide) (hG _ (by omega) (by omega)).1 ?_
      refine xj_iload_n (pc2 := 38) dX6_as_37 rfl rfl rfl ?_
      have hwg := wf_g hW c_5
      refine xj_S2I (pc2 := 41) (d2 := 0) mok_X6_isOfKind ml_X6_128 sta_yX6_isOfKind dX6_as_38 rfl rfl (by decide) (by decide) (Nat.le_of_ble_eq_true rfl) (fun _ => rfl) ?_
      refine c_X6_isOfKind (by omega) (by omega) ?_ ?_
      · -- X6_isOfKind = 1
        intro c_38
        refine xj_if_eq (pc2 := 44) (tgt := 48) dX6_as_41 rfl rfl (by omega) (fun c_41 => absurd c_41 (by decide)) (fun c_41 => ?_)
        refine xj_iload_n (pc2 := 45) dX6_as_44 rfl rfl rfl ?_
        refine xj_goto (tgt := 49) dX6_as_45 rfl ?_
        refine xj_iret dX6_as_49 rfl ?_
        exact q_eq (by unfold asZ; (repeat' split) <;> first | (exfalso; omega) | rfl | omega) (hq h hK FrC_rf)
      · -- X6_isOfKind = 0
        intro c_38
        refine xj_if_eq (pc2 := 44) (tgt := 48) dX6_as_41 rfl rfl (by omega) (fun c_41 => ?_) (fun c_41 => absurd c_41 (by decide))
        refine xj_iconst (pc2 := 49) dX6_as_48 rfl ?_
        refine xj_iret dX6_as_49 rfl ?_
        exact q_eq (by unfold asZ; (repeat' split) <;> first | (exfalso; omega) | rfl | omega) (hq h hK FrC_rf)
    · -- X6_within = 0
      intro c_17
      refine xj_if_ne (pc2 := 23) (tgt := 26) dX6_as_20 rfl rfl (by omega) (fun c_20 => absurd c_20 (by decide)) (fun c_20 => ?_)
      refine xj_bipush (pc2 := 25) dX6_as_23 rfl (by decide) ?_
      refine xj_iret dX6_as_25 rfl ?_
      exact q_eq (by unfold asZ; (repeat' split) <;> first | (exfalso; omega) | rfl | omega) (hq h hK FrC_rf)
  · -- X5_hasGlove = 0
    intro c_5
    refine xj_if_ne (pc2 := 11) (tgt := 14) dX6_as_8 rfl rfl (by omega) (fun c_8 => absurd c_8 (by decide)) (fun c_8 => ?_)
    refine xj_bipush (pc2 := 13) dX6_as_11 rfl (by decide) ?_
    refine xj_iret dX6_as_13 rfl ?_
    exact q_eq (by unfold asZ; (repeat' split) <;> first | (exfalso; omega) | rfl | omega) (hq h hK FrC_rf)
theorem c_X6_wearer {S I : Sh} {len g x : Int} {pg : Int → Int} {im tr td : Int} {h : Hp} {Q : Int → Hp → Prop} (hK : KC S I len pg im tr td h) (hKW : KW S I im tr td) (hg : -2147483648 ≤ g ∧ g ≤ 2147483647) (hx : -2147483648 ≤ x ∧ x ≤ 2147483647) (hq : ∀ h', KC S I len pg im tr td h' → FrC h h' → Q (wearerZ S g x) h') : CJ 4 kX6_wearer [.ref 0, vi g, vi x] h Q := by
  obtain ⟨hR, hI, hP, hk8, hk9, hk10⟩ := id hK
  have hW := hKW.1
  obtain ⟨⟨hn, hw, hh, hs⟩, hG, hN, hE⟩ := id hR
  have hnn := wf_n hW
  have hmm : 0 ≤ g ∧ g < S 6 1 → 0 ≤ moodZ S g (bsum (heldP S g) (nG S)) 0 ∧ moodZ S g (bsum (heldP S g) (nG S)) 0 ≤ 66 := fun q => moodZ_rg hW q (by decide)
  have hst : -1 ≤ stZ S g ∧ stZ S g < 64 := by
    have h1 := stF_rg S g (2 ^ nG S)
    have h2 := pow_le6 (n := nG S) (by have := nG_eq hW; omega)
    unfold stZ
    omega
  refine cj_of (lo := [some (.ref 0), some (vi g), some (vi x)]) mok_X6_wearer (fun _ => rfl) (fun _ => Nat.le_of_ble_eq_true rfl) ?_
  refine xj_aload_n (pc2 := 1) dX6_wearer_0 rfl rfl rfl ?_
  refine xj_getRn (pc2 := 4) (c2 := 2) fok_X6_19 dX6_wearer_1 rfl rfl rfl rfl rfl ?_
  refine xj_iload_n (pc2 := 5) dX6_wearer_4 rfl rfl rfl ?_
  refine xj_V1I (pc2 := 8) (d2 := 0) mok_X5_hasWearer ml_X6_132 ima_yX5_hasWearer sel_yX5_hasWearer rfl rfl dX6_wearer_5 rfl rfl (by decide) (by decide) (Nat.le_of_ble_eq_true rfl) (fun _ => rfl) ?_
  refine c_X5_hasWearer (Or.inl rfl) hR hW (by omega) ?_ ?_
  · -- X5_hasWearer = 1
    intro c_5
    refine xj_if_ne (pc2 := 11) (tgt := 14) dX6_wearer_8 rfl rfl (by omega) (fun c_8 => ?_) (fun c_8 => absurd c_8 (by decide))
    refine xj_iload_n (pc2 := 15) dX6_wearer_14 rfl rfl rfl ?_
    refine tsw_X6_wearer_15 (by omega) (fun c_15 => ?_) (fun c_15 => ?_) (fun c_15 => ?_) (fun c_15 => ?_) (fun c_15 => ?_) (fun c_15 => ?_) (fun c_15 => ?_) (fun c_15 => ?_) (fun c_15 => ?_) (fun c_15 => ?_)
    · -- 64
      refine xj_aload_n (pc2 := 65) dX6_wearer_64 rfl rfl rfl ?_
      refine xj_getRn (pc2 := 68) (c2 := 2) fok_X6_19 dX6_wearer_65 rfl rfl rfl rfl rfl ?_
      refine xj_getRn (pc2 := 71) (c2 := 38) fok_X6_135 dX6_wearer_68 rfl rfl rfl rfl rfl ?_
      refine xj_iload_n (pc2 := 72) dX6_wearer_71 rfl rfl rfl ?_
      refine xj_S2I (pc2 := 75) (d2 := 0) mok_X6_at ml_X6_98 sta_yX6_at dX6_wearer_72 rfl rfl (by decide) (by decide) (Nat.le_of_ble_eq_true rfl) (fun _ => rfl) ?_
      refine c_X6_at rfl (by omega) (by decide) (hN _ (by omega) (by omega)).1 ?_
      refine xj_iret dX6_wearer_75 rfl ?_
      first
      | exact q_eq (by rw [c_15, wearerZ, if_neg (fun q => q c_5)]; rfl) (hq h hK FrC_rf)
      | exact q_eq (by unfold wearerZ; (repeat' split) <;> first | (exfalso; omega) | rfl | omega) (hq h hK FrC_rf)
    · -- 76
      refine xj_aload_n (pc2 := 77) dX6_wearer_76 rfl rfl rfl ?_
      refine xj_getRn (pc2 := 80) (c2 := 2) fok_X6_19 dX6_wearer_77 rfl rfl rfl rfl rfl ?_
      refine xj_iload_n (pc2 := 81) dX6_wearer_80 rfl rfl rfl ?_
      refine xj_iconst (pc2 := 82) dX6_wearer_81 rfl ?_
      refine xj_V2I (pc2 := 85) (d2 := 3) mok_X5_moodOf ml_X6_138 ima_yX5_moodOf sel_yX5_moodOf rfl rfl dX6_wearer_82 rfl rfl (by decide) (by decide) (Nat.le_of_ble_eq_true rfl) (fun _ => rfl) ?_
      refine c_X5_moodOf (Or.inl rfl) hR hW (by omega) (by omega) ?_
      refine xj_iret dX6_wearer_85 rfl ?_
      first
      | exact q_eq (by rw [c_15, wearerZ, if_neg (fun q => q c_5)]; rfl) (hq h hK FrC_rf)
      | exact q_eq (by unfold wearerZ; (repeat' split) <;> first | (exfalso; omega) | rfl | omega) (hq h hK FrC_rf)
    · -- 86
      refine xj_aload_n (pc2 := 87) dX6_wearer_86 rfl rfl rfl ?_
      refine xj_getRn (pc2 := 90) (c2 := 2) fok_X6_19 dX6_wearer_87 rfl rfl rfl rfl rfl ?_
      refine xj_iload_n (pc2 := 91) dX6_wearer_90 rfl rfl rfl ?_
      refine xj_iconst (pc2 := 92) dX6_wearer_91 rfl ?_
      refine xj_V2I (pc2 := 95) (d2 := 1) mok_X5_gloveOn ml_X6_141 ima_yX5_gloveOn sel_yX5_gloveOn rfl rfl dX6_wearer_92 rfl rfl (by decide) (by decide) (Nat.le_of_ble_eq_true rfl) (fun _ => rfl) ?_
      refine c_X5_gloveOn2 (Or.inl rfl) (by first | exact hR | exact r888 _ _ _) hW (by omega) (by omega) ?_
      refine xj_iret dX6_wearer_95 rfl ?_
      first
      | exact q_eq (by rw [c_15, wearerZ, if_neg (fun q => q c_5)]; rfl) (hq h hK FrC_rf)
      | exact q_eq (by unfold wearerZ; (repeat' split) <;> first | (exfalso; omega) | rfl | omega) (hq h hK FrC_rf)
    · -- 96
      refine xj_aload_n (pc2 := 97) dX6_wearer_96 rfl rfl rfl ?_
      refine xj_getRn (pc2 := 100) (c2 := 2) fok_X6_19 dX6_wearer_97 rfl rfl rfl rfl rfl ?_
      refine xj_iload_n (pc2 := 101) dX6_wearer_100 rfl rfl rfl ?_
      refine xj_iconst (pc2 := 102) dX6_wearer_101 rfl ?_
      refine xj_V2I (pc2 := 105) (d2 := 1) mok_X5_gloveOn ml_X6_141 ima_yX5_gloveOn sel_yX5_gloveOn rfl rfl dX6_wearer_102 rfl rfl (by decide) (by decide) (Nat.le_of_ble_eq_true rfl) (fun _ => rfl) ?_
      refine c_X5_gloveOn2 (Or.inl rfl) (by first | exact hR | exact r888 _ _ _) hW (by omega) (by omega) ?_
      refine xj_iret dX6_wearer_105 rfl ?_
      first
      | exact q_eq (by rw [c_15, wearerZ, if_neg (fun q => q c_5)]; rfl) (hq h hK FrC_rf)
      | exact q_eq (by unfold wearerZ; (repeat' split) <;> first | (exfalso; omega) | rfl | omega) (hq h hK FrC_rf)
    · -- 106
      refine xj_aload_n (pc2 := 107) dX6_wearer_106 rfl rfl rfl ?_
      refine xj_getRn (pc2 := 110) (c2 := 2) fok_X6_19 dX6_wearer_107 rfl rfl rfl rfl rfl ?_
      refine xj_iload_n (pc2 := 111) dX6_wearer_110 rfl rfl rfl ?_
      refine xj_iconst (pc2 := 112) dX6_wearer_111 rfl ?_
      refine xj_V2I (pc2 := 115) (d2 := 3) mok_X5_moodOf ml_X6_138 ima_yX5_moodOf sel_yX5_moodOf rfl rfl dX6_wearer_112 rfl rfl (by decide) (by decide) (Nat.le_of_ble_eq_true rfl) (fun _ => rfl) ?_
      refine c_X5_moodOf (Or.inl rfl) hR hW (by omega) (by omega) ?_
      refine xj_S1I (pc2 := 118) (d2 := 0) mok_X6_doing ml_X6_144 sta_yX6_doing dX6_wearer_115 rfl rfl (by decide) (by decide) (Nat.le_of_ble_eq_true rfl) (fun _ => rfl) ?_
      refine c_X6_doing (by omega) ?_
      refine xj_iret dX6_wearer_118 rfl ?_
      first
      | exact q_eq (by rw [c_15, wearerZ, if_neg (fun q => q c_5)]; rfl) (hq h hK FrC_rf)
      | exact q_eq (by unfold wearerZ; (repeat' split) <;> first | (exfalso; omega) | rfl | omega) (hq h hK FrC_rf)
    · -- 119
      refine xj_aload_n (pc2 := 120) dX6_wearer_119 rfl rfl rfl ?_
      refine xj_getRn (pc2 := 123) (c2 := 2) fok_X6_19 dX6_wearer_120 rfl rfl rfl rfl rfl ?_
      refine xj_getRn (pc2 := 126) (c2 := 39) fok_X6_147 dX6_wearer_123 rfl rfl rfl rfl rfl ?_
      refine xj_iload_n (pc2 := 127) dX6_wearer_126 rfl rfl rfl ?_
      refine xj_S2I (pc2 := 130) (d2 := 0) mok_X6_at ml_X6_98 sta_yX6_at dX6_wearer_127 rfl rfl (by decide) (by decide) (Nat.le_of_ble_eq_true rfl) (fun _ => rfl) ?_
      refine c_X6_at rfl (by omega) (by decide) (hN _ (by omega) (by omega)).2 ?_
      refine xj_iret dX6_wearer_130 rfl ?_
      first
      | exact q_eq (by rw [c_15, wearerZ, if_neg (fun q => q c_5)]; rfl) (hq h hK FrC_rf)
      | exact q_eq (by unfold wearerZ; (repeat' split) <;> first | (exfalso; omega) | rfl | omega) (hq h hK FrC_rf)
    · -- 131
      refine xj_aload_n (pc2 := 132) dX6_wearer_131 rfl rfl rfl ?_
      refine xj_getRn (pc2 := 135) (c2 := 2) fok_X6_19 dX6_wearer_132 rfl rfl rfl rfl rfl ?_
      refine xj_iload_n (pc2 := 136) dX6_wearer_135 rfl rfl rfl ?_
      refine xj_aload_n (pc2 := 137) dX6_wearer_136 rfl rfl rfl ?_
      refine xj_getRn (pc2 := 140) (c2 := 2) fok_X6_19 dX6_wearer_137 rfl rfl rfl rfl rfl ?_
      refine xj_iload_n (pc2 := 141) dX6_wearer_140 rfl rfl rfl ?_
      refine xj_iconst (pc2 := 142) dX6_wearer_141 rfl ?_
      refine xj_V2I (pc2 := 145) (d2 := 3) mok_X5_moodOf ml_X6_138 ima_yX5_moodOf sel_yX5_moodOf rfl rfl dX6_wearer_142 rfl rfl (by decide) (by decide) (Nat.le_of_ble_eq_true rfl) (fun _ => rfl) ?_
      refine c_X5_moodOf (Or.inl rfl) hR hW (by omega) (by omega) ?_
      refine xj_V2I (pc2 := 148) (d2 := 1) mok_X5_pleases ml_X6_150 ima_yX5_pleases sel_yX5_pleases rfl rfl dX6_wearer_145 rfl rfl (by decide) (by decide) (Nat.le_of_ble_eq_true rfl) (fun _ => rfl) ?_
      refine c_X5_pleases (Or.inl rfl) hR hW (by omega) (by omega) ?_ ?_
      · -- X5_pleases = 1
        intro c_145
        refine xj_if_eq (pc2 := 151) (tgt := 155) dX6_wearer_148 rfl rfl (by omega) (fun c_148 => absurd c_148 (by decide)) (fun c_148 => ?_)
        refine xj_iconst (pc2 := 152) dX6_wearer_151 rfl ?_
        refine xj_goto (tgt := 156) dX6_wearer_152 rfl ?_
        refine xj_iret dX6_wearer_156 rfl ?_
        first
        | (have e6 : wishN S g = 1 := by unfold wishN moodN; rw [if_pos c_145]
           exact q_eq (by rw [c_15, wearerZ, if_neg (fun q => q c_5)]; exact e6.symm) (hq h hK FrC_rf))
        | (have e6 : wishN S g = 0 := by unfold wishN moodN; rw [if_neg c_145]
           exact q_eq (by rw [c_15, wearerZ, if_neg (fun q => q c_5)]; exact e6.symm) (hq h hK FrC_rf))
      · -- X5_pleases = 0
        intro c_145
        refine xj_if_eq (pc2 := 151) (tgt := 155) dX6_wearer_148 rfl rfl (by omega) (fun c_148 => ?_) (fun c_148 => absurd c_148 (by decide))
        refine xj_iconst (pc2 := 156) dX6_wearer_155 rfl ?_
        refine xj_iret dX6_wearer_156 rfl ?_
        first
        | (have e6 : wishN S g = 1 := by unfold wishN moodN; rw [if_pos c_145]
           exact q_eq (by rw [c_15, wearerZ, if_neg (fun q => q c_5)]; exact e6.symm) (hq h hK FrC_rf))
        | (have e6 : wishN S g = 0 := by unfold wishN moodN; rw [if_neg c_145]
           exact q_eq (by rw [c_15, wearerZ, if_neg (fun q => q c_5)]; exact e6.symm) (hq h hK FrC_rf))
    · -- 157
      refine xj_aload_n (pc2 := 158) dX6_wearer_157 rfl rfl rfl ?_
      refine xj_getRn (pc2 := 161) (c2 := 2) fok_X6_19 dX6_wearer_158 rfl rfl rfl rfl rfl ?_
      refine xj_iload_n (pc2 := 162) dX6_wearer_161 rfl rfl rfl ?_
      refine xj_aload_n (pc2 := 163) dX6_wearer_162 rfl rfl rfl ?_
      refine xj_getRn (pc2 := 166) (c2 := 2) fok_X6_19 dX6_wearer_163 rfl rfl rfl rfl rfl ?_
      refine xj_iload_n (pc2 := 167) dX6_wearer_166 rfl rfl rfl ?_
      refine xj_V1I (pc2 := 170) (d2 := 3) mok_X5_stillSet ml_X6_153 ima_yX5_stillSet sel_yX5_stillSet rfl rfl dX6_wearer_167 rfl rfl (by decide) (by decide) (Nat.le_of_ble_eq_true rfl) (fun _ => rfl) ?_
      refine c_X5_stillSet (Or.inl rfl) hR hW (by omega) ?_
      refine xj_V2I (pc2 := 173) (d2 := 2) mok_X5_changesTo ml_X6_156 ima_yX5_changesTo sel_yX5_changesTo rfl rfl dX6_wearer_170 rfl rfl (by decide) (by decide) (Nat.le_of_ble_eq_true rfl) (fun _ => rfl) ?_
      refine c_X5_changesTo (Or.inl rfl) hR hW (by omega) (by omega) ?_
      refine xj_iret dX6_wearer_173 rfl ?_
      rw [show (if stZ S g = -1 then (-1 : Int) else pc (bxor (stZ S g) (bsum (heldP S g) (nG S)))) = cgZ S g from rfl]
      first
      | exact q_eq (by rw [c_15, wearerZ, if_neg (fun q => q c_5)]; rfl) (hq h hK FrC_rf)
      | exact q_eq (by unfold wearerZ; (repeat' split) <;> first | (exfalso; omega) | rfl | omega) (hq h hK FrC_rf)
    · -- 174
      refine xj_aload_n (pc2 := 175) dX6_wearer_174 rfl rfl rfl ?_
      refine xj_getRn (pc2 := 178) (c2 := 2) fok_X6_19 dX6_wearer_175 rfl rfl rfl rfl rfl ?_
      refine xj_iload_n (pc2 := 179) dX6_wearer_178 rfl rfl rfl ?_
      refine xj_V1I (pc2 := 182) (d2 := 3) mok_X5_stillSet ml_X6_153 ima_yX5_stillSet sel_yX5_stillSet rfl rfl dX6_wearer_179 rfl rfl (by decide) (by decide) (Nat.le_of_ble_eq_true rfl) (fun _ => rfl) ?_
      refine c_X5_stillSet (Or.inl rfl) hR hW (by omega) ?_
      refine xj_iret dX6_wearer_182 rfl ?_
      first
      | exact q_eq (by rw [c_15, wearerZ, if_neg (fun q => q c_5)]; rfl) (hq h hK FrC_rf)
      | exact q_eq (by unfold wearerZ; (repeat' split) <;> first | (exfalso; omega) | rfl | omega) (hq h hK FrC_rf)
    · -- 183
      refine xj_bipush (pc2 := 185) dX6_wearer_183 rfl (by decide) ?_
      refine xj_iret dX6_wearer_185 rfl ?_
      first
      | exact q_eq (by rw [c_15, wearerZ, if_neg (fun q => q c_5)]; rfl) (hq h hK FrC_rf)
      | exact q_eq (by unfold wearerZ; (repeat' split) <;> first | (exfalso; omega) | rfl | omega) (hq h hK FrC_rf)
  · -- X5_hasWearer = 0
    intro c_5
    refine xj_if_ne (pc2 := 11) (tgt := 14) dX6_wearer_8 rfl rfl (by omega) (fun c_8 => absurd c_8 (by decide)) (fun c_8 => ?_)
    refine xj_bipush (pc2 := 13) dX6_wearer_11 rfl (by decide) ?_
    refine xj_iret dX6_wearer_13 rfl ?_
    exact q_eq (by unfold wearerZ; (repeat' split) <;> first | (exfalso; omega) | rfl | omega) (hq h hK FrC_rf)
theorem c_X6_mood {S I : Sh} {len g x : Int} {pg : Int → Int} {im tr td : Int} {h : Hp} {Q : Int → Hp → Prop} (hK : KC S I len pg im tr td h) (hKW : KW S I im tr td) (hg : -2147483648 ≤ g ∧ g ≤ 2147483647) (hx : -2147483648 ≤ x ∧ x ≤ 2147483647) (hq : ∀ h', KC S I len pg im tr td h' → FrC h h' → Q (moodV S g x) h') : CJ 4 kX6_mood [.ref 0, vi g, vi x] h Q := by
  obtain ⟨hR, hI, hP, hk8, hk9, hk10⟩ := id hK
  have hW := hKW.1
  obtain ⟨⟨hn, hw, hh, hs⟩, hG, hN, hE⟩ := id hR
  have hnn := wf_n hW
  refine cj_of (lo := [some (.ref 0), some (vi g), some (vi x)]) mok_X6_mood (fun _ => rfl) (fun _ => Nat.le_of_ble_eq_true rfl) ?_
  refine xj_aload_n (pc2 := 1) dX6_mood_0 rfl rfl rfl ?_
  refine xj_getRn (pc2 := 4) (c2 := 2) fok_X6_19 dX6_mood_1 rfl rfl rfl rfl rfl ?_
  refine xj_iload_n (pc2 := 5) dX6_mood_4 rfl rfl rfl ?_
  refine xj_V1I (pc2 := 8) (d2 := 0) mok_X5_hasWearer ml_X6_132 ima_yX5_hasWearer sel_yX5_hasWearer rfl rfl dX6_mood_5 rfl rfl (by decide) (by decide) (Nat.le_of_ble_eq_true rfl) (fun _ => rfl) ?_
  refine c_X5_hasWearer (Or.inl rfl) hR hW (by omega) ?_ ?_
  · -- X5_hasWearer = 1
    intro c_5
    refine xj_if_ne (pc2 := 11) (tgt := 14) dX6_mood_8 rfl rfl (by omega) (fun c_8 => ?_) (fun c_8 => absurd c_8 (by decide))
    refine xj_iload_n (pc2 := 15) dX6_mood_14 rfl rfl rfl ?_
    refine xj_iconst (pc2 := 16) dX6_mood_15 rfl ?_
    refine xj_bipush (pc2 := 18) dX6_mood_16 rfl (by decide) ?_
    refine xj_S3I (pc2 := 21) (d2 := 0) mok_X6_within ml_X6_57 sta_yX6_within dX6_mood_18 rfl rfl (by decide) (by decide) (Nat.le_of_ble_eq_true rfl) (fun _ => rfl) ?_
    refine c_X6_within (by omega) (by omega) (by omega) ?_ ?_
    · -- X6_within = 1
      intro c_18
      refine xj_if_ne (pc2 := 24) (tgt := 27) dX6_mood_21 rfl rfl (by omega) (fun c_21 => ?_) (fun c_21 => absurd c_21 (by decide))
      refine xj_aload_n (pc2 := 28) dX6_mood_27 rfl rfl rfl ?_
      refine xj_getRn (pc2 := 31) (c2 := 2) fok_X6_19 dX6_mood_28 rfl rfl rfl rfl rfl ?_
      refine xj_iload_n (pc2 := 32) dX6_mood_31 rfl rfl rfl ?_
      refine xj_iload_n (pc2 := 33) dX6_mood_32 rfl rfl rfl ?_
      refine xj_V2I (pc2 := 36) (d2 := 3) mok_X5_moodOf ml_X6_138 ima_yX5_moodOf sel_yX5_moodOf rfl rfl dX6_mood_33 rfl rfl (by decide) (by decide) (Nat.le_of_ble_eq_true rfl) (fun _ => rfl) ?_
      refine c_X5_moodOf (Or.inl rfl) hR hW (by omega) (by omega) ?_
      refine xj_iret dX6_mood_36 rfl ?_
      exact q_eq (by unfold moodV; (repeat' split) <;> first | (exfalso; omega) | rfl | omega) (hq h hK FrC_rf)
    · -- X6_within = 0
      intro c_18
      refine xj_if_ne (pc2 := 24) (tgt := 27) dX6_mood_21 rfl rfl (by omega) (fun c_21 => absurd c_21 (by decide)) (fun c_21 => ?_)
      refine xj_bipush (pc2 := 26) dX6_mood_24 rfl (by decide) ?_
      refine xj_iret dX6_mood_26 rfl ?_
      exact q_eq (by unfold moodV; (repeat' split) <;> first | (exfalso; omega) | rfl | omega) (hq h hK FrC_rf)
  · -- X5_hasWearer = 0
    intro c_5
    refine xj_if_ne (pc2 := 11) (tgt := 14) dX6_mood_8 rfl rfl (by omega) (fun c_8 => absurd c_8 (by decide)) (fun c_8 => ?_)
    refine xj_bipush (pc2 := 13) dX6_mood_11 rfl (by decide) ?_
    refine xj_iret dX6_mood_13 rfl ?_
    exact q_eq (by unfold moodV; (repeat' split) <;> first | (exfalso; omega) | rfl | omega) (hq h hK FrC_rf)
theorem c_X6_count {S I : Sh} {len x : Int} {pg : Int → Int} {im tr td : Int} {h : Hp} {Q : Int → Hp → Prop} (hK : KC S I len pg im tr td h) (hKW : KW S I im tr td) (hx : -2147483648 ≤ x ∧ x ≤ 2147483647) (hq : ∀ h', KC S I len pg im tr td h' → FrC h h' → Q (countZ S len tr td x) h') : CJ 5 kX6_count [.ref 0, vi x] h Q := by
  obtain ⟨hR, hI, hP, hk8, hk9, hk10⟩ := id hK
  obtain ⟨hl, hlr, hpg⟩ := id hP
  have hW := hKW.1
  obtain ⟨⟨hn, hw, hh, hs⟩, hG, hN, hE⟩ := id hR
  have hnn := wf_n hW
  refine cj_of (lo := [some (.ref 0), some (vi x)]) mok_X6_count (fun _ => rfl) (fun _ => Nat.le_of_ble_eq_true rfl) ?_
  refine xj_iload_n (pc2 := 1) dX6_count_0 rfl rfl rfl ?_
  refine tsw_X6_count_1 (by omega) (fun c_1 => ?_) (fun c_1 => ?_) (fun c_1 => ?_) (fun c_1 => ?_) (fun c_1 => ?_) (fun c_1 => ?_) (fun c_1 => ?_) (fun c_1 => ?_) (fun c_1 => ?_) (fun c_1 => ?_) (fun c_1 => ?_) (fun c_1 => ?_) (fun c_1 => ?_) (fun c_1 => ?_)
  · -- 68
    refine xj_aload_n (pc2 := 69) dX6_count_68 rfl rfl rfl ?_
    refine xj_getRn (pc2 := 72) (c2 := 2) fok_X6_19 dX6_count_69 rfl rfl rfl rfl rfl ?_
    refine xj_getI (pc2 := 75) (kz := 11) fok_X6_88 dX6_count_72 rfl rfl rfl (by decide) rfl (by first | assumption | rfl) ?_
    refine xj_iret dX6_count_75 rfl ?_
    first
    | (refine q_eq (y := countZ S len tr td x) ?_ (hq h hK FrC_rf); rw [c_1]; rfl)
    | exact q_eq (by unfold countZ; (repeat' split) <;> first | (exfalso; omega) | rfl | omega) (hq h hK FrC_rf)
  · -- 76
    refine xj_aload_n (pc2 := 77) dX6_count_76 rfl rfl rfl ?_
    refine xj_getRn (pc2 := 80) (c2 := 2) fok_X6_19 dX6_count_77 rfl rfl rfl rfl rfl ?_
    refine xj_getI (pc2 := 83) (kz := 12) fok_X6_238 dX6_count_80 rfl rfl rfl (by decide) rfl (by first | assumption | rfl) ?_
    refine xj_iret dX6_count_83 rfl ?_
    first
    | (refine q_eq (y := countZ S len tr td x) ?_ (hq h hK FrC_rf); rw [c_1]; rfl)
    | exact q_eq (by unfold countZ; (repeat' split) <;> first | (exfalso; omega) | rfl | omega) (hq h hK FrC_rf)
  · -- 84
    refine xj_aload_n (pc2 := 85) dX6_count_84 rfl rfl rfl ?_
    refine xj_getRn (pc2 := 88) (c2 := 2) fok_X6_19 dX6_count_85 rfl rfl rfl rfl rfl ?_
    refine xj_V0I (pc2 := 91) (d2 := 2) mok_X5_countOnHands ml_X6_235 ima_yX5_countOnHands sel_yX5_countOnHands rfl rfl dX6_count_88 rfl rfl (by decide) (by decide) (Nat.le_of_ble_eq_true rfl) (fun _ => rfl) ?_
    refine c_X5_countOnHands (Or.inl rfl) hR hW ?_
    refine xj_iret dX6_count_91 rfl ?_
    first
    | (refine q_eq (y := countZ S len tr td x) ?_ (hq h hK FrC_rf); rw [c_1]; rfl)
    | exact q_eq (by unfold countZ; (repeat' split) <;> first | (exfalso; omega) | rfl | omega) (hq h hK FrC_rf)
  · -- 92
    refine xj_aload_n (pc2 := 93) dX6_count_92 rfl rfl rfl ?_
    refine xj_getRn (pc2 := 96) (c2 := 2) fok_X6_19 dX6_count_93 rfl rfl rfl rfl rfl ?_
    refine xj_getI (pc2 := 99) (kz := 13) fok_X6_170 dX6_count_96 rfl rfl rfl (by decide) rfl (by first | assumption | rfl) ?_
    refine xj_iret dX6_count_99 rfl ?_
    first
    | (refine q_eq (y := countZ S len tr td x) ?_ (hq h hK FrC_rf); rw [c_1]; rfl)
    | exact q_eq (by unfold countZ; (repeat' split) <;> first | (exfalso; omega) | rfl | omega) (hq h hK FrC_rf)
  · -- 100
    refine xj_aload_n (pc2 := 101) dX6_count_100 rfl rfl rfl ?_
    refine xj_getRn (pc2 := 104) (c2 := 2) fok_X6_19 dX6_count_101 rfl rfl rfl rfl rfl ?_
    refine xj_iconst (pc2 := 105) dX6_count_104 rfl ?_
    refine xj_V1I (pc2 := 108) (d2 := 4) mok_X5_countDoing ml_X6_232 ima_yX5_countDoing sel_yX5_countDoing rfl rfl dX6_count_105 rfl rfl (by decide) (by decide) (Nat.le_of_ble_eq_true rfl) (fun _ => rfl) ?_
    refine c_X5_countDoing (Or.inl rfl) hR hW (by omega) ?_
    refine xj_iret dX6_count_108 rfl ?_
    first
    | (refine q_eq (y := countZ S len tr td x) ?_ (hq h hK FrC_rf); rw [c_1]; rfl)
    | exact q_eq (by unfold countZ; (repeat' split) <;> first | (exfalso; omega) | rfl | omega) (hq h hK FrC_rf)
  · -- 109
    refine xj_aload_n (pc2 := 110) dX6_count_109 rfl rfl rfl ?_
    refine xj_getRn (pc2 := 113) (c2 := 2) fok_X6_19 dX6_count_110 rfl rfl rfl rfl rfl ?_
    refine xj_iconst (pc2 := 114) dX6_count_113 rfl ?_
    refine xj_V1I (pc2 := 117) (d2 := 4) mok_X5_countDoing ml_X6_232 ima_yX5_countDoing sel_yX5_countDoing rfl rfl dX6_count_114 rfl rfl (by decide) (by decide) (Nat.le_of_ble_eq_true rfl) (fun _ => rfl) ?_
    refine c_X5_countDoing (Or.inl rfl) hR hW (by omega) ?_
    refine xj_iret dX6_count_117 rfl ?_
    first
    | (refine q_eq (y := countZ S len tr td x) ?_ (hq h hK FrC_rf); rw [c_1]; rfl)
    | exact q_eq (by unfold countZ; (repeat' split) <;> first | (exfalso; omega) | rfl | omega) (hq h hK FrC_rf)
  · -- 118
    refine xj_aload_n (pc2 := 119) dX6_count_118 rfl rfl rfl ?_
    refine xj_getRn (pc2 := 122) (c2 := 2) fok_X6_19 dX6_count_119 rfl rfl rfl rfl rfl ?_
    refine xj_V0I (pc2 := 125) (d2 := 4) mok_X5_countPleased ml_X6_241 ima_yX5_countPleased sel_yX5_countPleased rfl rfl dX6_count_122 rfl rfl (by decide) (by decide) (Nat.le_of_ble_eq_true rfl) (fun _ => rfl) ?_
    refine c_X5_countPleased (Or.inl rfl) hR hW ?_
    refine xj_iret dX6_count_125 rfl ?_
    first
    | (refine q_eq (y := countZ S len tr td x) ?_ (hq h hK FrC_rf); rw [c_1]; rfl)
    | exact q_eq (by unfold countZ; (repeat' split) <;> first | (exfalso; omega) | rfl | omega) (hq h hK FrC_rf)
  · -- 126
    refine xj_aload_n (pc2 := 127) dX6_count_126 rfl rfl rfl ?_
    refine xj_getRn (pc2 := 130) (c2 := 2) fok_X6_19 dX6_count_127 rfl rfl rfl rfl rfl ?_
    refine xj_V0I (pc2 := 133) (d2 := 3) mok_X5_countQuarrels ml_X6_244 ima_yX5_countQuarrels sel_yX5_countQuarrels rfl rfl dX6_count_130 rfl rfl (by decide) (by decide) (Nat.le_of_ble_eq_true rfl) (fun _ => rfl) ?_
    refine c_X5_countQuarrels (Or.inl rfl) hR hW ?_
    refine xj_iret dX6_count_133 rfl ?_
    first
    | (refine q_eq (y := countZ S len tr td x) ?_ (hq h hK FrC_rf); rw [c_1]; rfl)
    | exact q_eq (by unfold countZ; (repeat' split) <;> first | (exfalso; omega) | rfl | omega) (hq h hK FrC_rf)
  · -- 134
    refine xj_aload_n (pc2 := 135) dX6_count_134 rfl rfl rfl ?_
    refine xj_getRn (pc2 := 138) (c2 := 2) fok_X6_19 dX6_count_135 rfl rfl rfl rfl rfl ?_
    refine xj_V0I (pc2 := 141) (d2 := 2) mok_X5_sumOfTempers ml_X6_247 ima_yX5_sumOfTempers sel_yX5_sumOfTempers rfl rfl dX6_count_138 rfl rfl (by decide) (by decide) (Nat.le_of_ble_eq_true rfl) (fun _ => rfl) ?_
    refine c_X5_sumOfTempers (Or.inl rfl) hR hW ?_
    refine xj_iret dX6_count_141 rfl ?_
    first
    | (refine q_eq (y := countZ S len tr td x) ?_ (hq h hK FrC_rf); rw [c_1]; rfl)
    | exact q_eq (by unfold countZ; (repeat' split) <;> first | (exfalso; omega) | rfl | omega) (hq h hK FrC_rf)
  · -- 142
    refine xj_aload_n (pc2 := 143) dX6_count_142 rfl rfl rfl ?_
    refine xj_getRn (pc2 := 146) (c2 := 2) fok_X6_19 dX6_count_143 rfl rfl rfl rfl rfl ?_
    refine xj_getI (pc2 := 149) (kz := 14) fok_X6_219 dX6_count_146 rfl rfl rfl (by decide) rfl (by first | assumption | rfl) ?_
    refine xj_iret dX6_count_149 rfl ?_
    first
    | (refine q_eq (y := countZ S len tr td x) ?_ (hq h hK FrC_rf); rw [c_1]; rfl)
    | exact q_eq (by unfold countZ; (repeat' split) <;> first | (exfalso; omega) | rfl | omega) (hq h hK FrC_rf)
  · -- 150
    refine xj_aload_n (pc2 := 151) dX6_count_150 rfl rfl rfl ?_
    refine xj_getRn (pc2 := 154) (c2 := 1) fok_X6_12 dX6_count_151 rfl rfl rfl rfl rfl ?_
    refine xj_getI (pc2 := 157) (kz := 1) fok_X6_65 dX6_count_154 rfl rfl rfl (by decide) rfl (by first | assumption | rfl) ?_
    refine xj_iret dX6_count_157 rfl ?_
    first
    | (refine q_eq (y := countZ S len tr td x) ?_ (hq h hK FrC_rf); rw [c_1]; rfl)
    | exact q_eq (by unfold countZ; (repeat' split) <;> first | (exfalso; omega) | rfl | omega) (hq h hK FrC_rf)
  · -- 158
    refine xj_aload_n (pc2 := 159) dX6_count_158 rfl rfl rfl ?_
    refine xj_getI (pc2 := 162) (kz := 9) fok_X6_85 dX6_count_159 rfl rfl rfl (by decide) rfl (by first | assumption | rfl) ?_
    refine xj_iret dX6_count_162 rfl ?_
    first
    | (refine q_eq (y := countZ S len tr td x) ?_ (hq h hK FrC_rf); rw [c_1]; rfl)
    | exact q_eq (by unfold countZ; (repeat' split) <;> first | (exfalso; omega) | rfl | omega) (hq h hK FrC_rf)
  · -- 163
    refine xj_aload_n (pc2 := 164) dX6_count_163 rfl rfl rfl ?_
    refine xj_getI (pc2 := 167) (kz := 10) fok_X6_183 dX6_count_164 rfl rfl rfl (by decide) rfl (by first | assumption | rfl) ?_
    refine xj_iret dX6_count_167 rfl ?_
    first
    | (refine q_eq (y := countZ S len tr td x) ?_ (hq h hK FrC_rf); rw [c_1]; rfl)
    | exact q_eq (by unfold countZ; (repeat' split) <;> first | (exfalso; omega) | rfl | omega) (hq h hK FrC_rf)
  · -- 168
    refine xj_bipush (pc2 := 170) dX6_count_168 rfl (by decide) ?_
    refine xj_iret dX6_count_170 rfl ?_
    first
    | (refine q_eq (y := countZ S len tr td x) ?_ (hq h hK FrC_rf); rw [c_1]; rfl)
    | exact q_eq (by unfold countZ; (repeat' split) <;> first | (exfalso; omega) | rfl | omega) (hq h hK FrC_rf)
