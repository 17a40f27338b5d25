/-! the model: teas as a whole -/
theorem goZ_h (U : Sh) (x0 x : Int) : goZ (hset U 6 2 x0) x = goZ U x := rfl
theorem hset_cm {U : Sh} {g v x0 : Int} : hset (hset U 6 2 x0) 3 g v = hset (hset U 3 g v) 6 2 x0 := by
  funext t k
  unfold hset
  by_cases e1 : t = 3 ∧ k = g
  · rw [if_pos e1, if_neg (by omega), if_pos e1]
  · rw [if_neg e1]
    by_cases e2 : t = 6 ∧ k = 2
    · rw [if_pos e2, if_pos e2]
    · rw [if_neg e2, if_neg e2, if_neg e1]
theorem cbd_h (U : Sh) (x0 s : Int) : cbd (hset U 6 2 x0) s = (hset (cbd U s).1 6 2 x0, (cbd U s).2) := by
  have e3 : ∀ k, hset U 6 2 x0 3 k = U 3 k := fun k => hset_nc (by decide)
  have e60 : hset U 6 2 x0 6 0 = U 6 0 := hset_nk (by decide)
  have e61 : hset U 6 2 x0 6 1 = U 6 1 := hset_nk (by decide)
  unfold cbd
  rw [e60, e61, e3, goZ_h]
  by_cases q : U 3 (drw s (U 6 0)) = -1
  · rw [if_pos q, if_pos q]
    by_cases q2 : goZ U (2 * drw (sdz s) (U 6 1) + drw (sdz (sdz s)) 2) = -1
    · rw [if_pos q2, if_pos q2, hset_cm]
    · rw [if_neg q2, if_neg q2]
  · rw [if_neg q, if_neg q, hset_cm]
theorem passA_h (U : Sh) (x0 : Int) : passA (hset U 6 2 x0) = hset (passS U) 6 2 x0 := by
  funext t k
  have e3 : hset U 6 2 x0 3 k = U 3 k := hset_nc (by decide)
  have e2 : hset U 6 2 x0 2 k = U 2 k := hset_nc (by decide)
  show (if t = 2 ∧ ¬ hold (hset U 6 2 x0 3 k) = -1 then agez (hset U 6 2 x0 2 k + 1) else hset U 6 2 x0 t k) = (if t = 6 ∧ k = 2 then x0 else if t = 6 ∧ k = 2 then U 6 2 + 1 else if t = 2 ∧ ¬ hold (U 3 k) = -1 then agez (U 2 k + 1) else U t k)
  rw [e3, e2]
  show (if t = 2 ∧ ¬ hold (U 3 k) = -1 then agez (U 2 k + 1) else if t = 6 ∧ k = 2 then x0 else U t k) = _
  by_cases q : t = 6 ∧ k = 2
  · simp only [if_pos q]
    rw [if_neg (by omega)]
  · simp only [if_neg q]
theorem WF_h {U : Sh} {x0 : Int} (hW : WF U) (h0 : 0 ≤ x0) : WF (hset U 6 2 x0) := ⟨hW.1, h0, hW.2.2.1, hW.2.2.2.1, hW.2.2.2.2.1, hW.2.2.2.2.2.1, hW.2.2.2.2.2.2⟩
theorem tea_c (U : Sh) (x0 : Int) : cntz (doP (hset U 6 2 x0) 1) (nW (hset U 6 2 x0)) = cntz (doP U 1) (nW U) := rfl
theorem tea_o (U : Sh) (x0 : Int) : cntz (onP (hset U 6 2 x0)) (nG (hset U 6 2 x0)) = cntz (onP U) (nG U) := rfl
theorem c_X7_teasNow {S : Sh} {s x : Int} {n : Nat} {h : Hp} {Q : Int → Hp → Prop} (hM : RM S h) (hW : WF S) (hn0 : 0 < S 6 0) (hn1 : n ≤ 60) (hs0 : 0 ≤ s ∧ s ≤ 2147483647) (hx : 0 ≤ x ∧ x ≤ 2) (hq : ∀ h', (∀ c k, c ≠ 150 → c ≠ 151 → c ≠ 168 → c ≠ 169 → (c ≠ 9 ∨ k ≠ 22) → h' c k = h c k) → (∀ i : Nat, i < 6 → h' 150 i = h 150 i ∧ h' 151 i = h 151 i) → Q (if x = 0 then (teZ S s n).2.2 else if x = 1 then cntz (onP (teZ S s n).1) (nG (teZ S s n).1) else (teZ S s n).2.1) h') : CJ 6 kX7_teasNow [.ref 9, vi n, vi s, vi x] h Q := by
  have hnn := wf_n hW
  have stage3 : ∀ (v m : Int) (h2 : Hp), v = (teZ S s n).2.2 → m = cntz (onP (teZ S s n).1) (nG (teZ S s n).1) → h2 9 22 = (teZ S s n).2.1 → (∀ c k, c ≠ 150 → c ≠ 151 → c ≠ 168 → c ≠ 169 → (c ≠ 9 ∨ k ≠ 22) → h2 c k = h c k) → (∀ i : Nat, i < 6 → h2 168 i = h 150 i ∧ h2 169 i = h 151 i) → XJ none 6 kX7_teasNow h2 90 [some (.ref 9), some (vi n), some (vi s), some (vi x), some (vi v), some (vi m), some (vi 0)] [] Q := by
    intro v m h2 e1 e2 e3 hf hsv
    refine down (P := fun j => ∀ h' : Hp, (∀ c k, c ≠ 150 → c ≠ 151 → h' c k = h2 c k) → (∀ i : Nat, i < j → h' 150 i = h 150 i ∧ h' 151 i = h 151 i) → XJ none 6 kX7_teasNow h' 90 [some (.ref 9), some (vi n), some (vi s), some (vi x), some (vi v), some (vi m), some (vi j)] [] Q) (n := 6) ?_ ?_ h2 (fun _ _ _ _ => rfl) (fun i hi => by omega)
    · intro h' hf2 hr
      have hfin := hq h' (fun c k q1 q2 q3 q4 q5 => (hf2 c k q1 q2).trans (hf c k q1 q2 q3 q4 q5)) hr
      have h22 : h' 9 22 = (teZ S s n).2.1 := (hf2 9 22 (by decide) (by decide)).trans e3
      subst e1
      subst e2
      refine xj_iload (pc2 := 92) dX7_teasNow_90 rfl rfl ?_
      refine xj_bipush (pc2 := 94) dX7_teasNow_92 rfl (by decide) ?_
      refine xj_cmp_ge (pc2 := 97) (tgt := 131) dX7_teasNow_94 rfl rfl (by omega) (by omega) (fun c_94 => ?_) (fun c_94 => by exfalso; omega)
      refine xj_iload_n (pc2 := 132) dX7_teasNow_131 rfl rfl rfl ?_
      refine xj_if_ne (pc2 := 135) (tgt := 140) dX7_teasNow_132 rfl rfl (by omega) (fun c_132 => ?_) (fun c_132 => ?_)
      · -- 140
        refine xj_iload_n (pc2 := 141) dX7_teasNow_140 rfl rfl rfl ?_
        refine xj_iconst (pc2 := 142) dX7_teasNow_141 rfl ?_
        refine xj_cmp_ne (pc2 := 145) (tgt := 150) dX7_teasNow_142 rfl rfl (by omega) (by omega) (fun c_142 => ?_) (fun c_142 => ?_)
        · -- 150
          refine xj_aload_n (pc2 := 151) dX7_teasNow_150 rfl rfl rfl ?_
          refine xj_getJ (pc2 := 154) (kz := 22) fok_X7_245 dX7_teasNow_151 rfl rfl rfl rfl rfl (by first | assumption | rfl) ?_
          refine xj_l2i (pc2 := 155) dX7_teasNow_154 rfl ?_
          refine xj_iret dX7_teasNow_155 rfl ?_
          first
          | (rw [if_pos c_132] at hfin; exact hfin)
          | (rw [if_neg c_132, if_pos (by omega)] at hfin; exact hfin)
          | (rw [if_neg c_132, if_neg (by omega)] at hfin; exact hfin)
        · -- 145
          refine xj_iload (pc2 := 147) dX7_teasNow_145 rfl rfl ?_
          refine xj_goto (tgt := 155) dX7_teasNow_147 rfl ?_
          refine xj_iret dX7_teasNow_155 rfl ?_
          first
          | (rw [if_pos c_132] at hfin; exact hfin)
          | (rw [if_neg c_132, if_pos (by omega)] at hfin; exact hfin)
          | (rw [if_neg c_132, if_neg (by omega)] at hfin; exact hfin)
      · -- 135
        refine xj_iload (pc2 := 137) dX7_teasNow_135 rfl rfl ?_
        refine xj_goto (tgt := 155) dX7_teasNow_137 rfl ?_
        refine xj_iret dX7_teasNow_155 rfl ?_
        first
        | (rw [if_pos c_132] at hfin; exact hfin)
        | (rw [if_neg c_132, if_pos (by omega)] at hfin; exact hfin)
        | (rw [if_neg c_132, if_neg (by omega)] at hfin; exact hfin)
    · intro j hj ih h' hf2 hr
      have hsj := hsv j hj
      refine xj_iload (pc2 := 92) dX7_teasNow_90 rfl rfl ?_
      refine xj_bipush (pc2 := 94) dX7_teasNow_92 rfl (by decide) ?_
      refine xj_cmp_ge (pc2 := 97) (tgt := 131) dX7_teasNow_94 rfl rfl (by omega) (by omega) (fun c_94 => by exfalso; omega) (fun c_94 => ?_)
      refine xj_aload_n (pc2 := 98) dX7_teasNow_97 rfl rfl rfl ?_
      refine xj_getRn (pc2 := 101) (c2 := 150) fok_X7_16 dX7_teasNow_98 rfl rfl rfl rfl rfl ?_
      refine xj_iload (pc2 := 103) dX7_teasNow_101 rfl rfl ?_
      refine xj_aload_n (pc2 := 104) dX7_teasNow_103 rfl rfl rfl ?_
      refine xj_getRn (pc2 := 107) (c2 := 168) fok_X7_47 dX7_teasNow_104 rfl rfl rfl rfl rfl ?_
      refine xj_iload (pc2 := 109) dX7_teasNow_107 rfl rfl ?_
      refine xj_iald (pc2 := 110) dX7_teasNow_109 rfl rfl (by omega) (by omega) rfl ?_
      refine xj_iast (pc2 := 111) dX7_teasNow_110 rfl rfl (by omega) (by omega) ?_
      refine xj_aload_n (pc2 := 112) dX7_teasNow_111 rfl rfl rfl ?_
      refine xj_getRn (pc2 := 115) (c2 := 151) fok_X7_19 dX7_teasNow_112 rfl rfl rfl rfl rfl ?_
      refine xj_iload (pc2 := 117) dX7_teasNow_115 rfl rfl ?_
      refine xj_aload_n (pc2 := 118) dX7_teasNow_117 rfl rfl rfl ?_
      refine xj_getRn (pc2 := 121) (c2 := 169) fok_X7_50 dX7_teasNow_118 rfl rfl rfl rfl rfl ?_
      refine xj_iload (pc2 := 123) dX7_teasNow_121 rfl rfl ?_
      refine xj_iald (pc2 := 124) dX7_teasNow_123 rfl rfl (by omega) (by omega) rfl ?_
      refine xj_iast (pc2 := 125) dX7_teasNow_124 rfl rfl (by omega) (by omega) ?_
      refine xj_iinc6 (pc2 := 128) dX7_teasNow_125 rfl (by decide) rfl ?_
      refine xj_goto (tgt := 90) dX7_teasNow_128 rfl ?_
      refine ih _ (fun c k q1 q2 => by rw [hset_nc q2, hset_nc q1]; exact hf2 c k q1 q2) (fun i hi => ?_)
      by_cases e : i = j
      · subst e
        constructor
        · rw [hset_nc (by decide), hset_eq, hf2 168 _ (by decide) (by decide)]; exact hsj.1
        · rw [hset_eq, hset_nc (by decide), hf2 169 _ (by decide) (by decide)]; exact hsj.2
      · rw [hset_nc (by decide), hset_nk (by omega), hset_nk (by omega), hset_nc (by decide)]
        exact hr i (by omega)
  have stage2 : ∀ h1 : Hp, RM S h1 → h1 9 22 = s → (∀ c k, c ≠ 168 → c ≠ 169 → (c ≠ 9 ∨ k ≠ 22) → h1 c k = h c k) → (∀ i : Nat, i < 6 → h1 168 i = h 150 i ∧ h1 169 i = h 151 i) → XJ none 6 kX7_teasNow h1 56 [some (.ref 9), some (vi n), some (vi s), some (vi x), some (vi 0), some (vi 0), none] [] Q := by
    intro h1 hM1 hs1 hf1 hsv
    refine down (P := fun j => ∀ h' : Hp, RM (hset (teZ S s j).1 6 2 (S 6 2)) h' → h' 9 22 = (teZ S s j).2.1 → (∀ c k, c ≠ 150 → c ≠ 151 → (c ≠ 9 ∨ k ≠ 22) → h' c k = h1 c k) → XJ none 6 kX7_teasNow h' 56 [some (.ref 9), some (vi n), some (vi s), some (vi x), some (vi (teZ S s j).2.2), some (vi j), none] [] Q) (n := n) ?_ ?_ h1 (by rw [show (teZ S s 0).1 = S from rfl, hset_self rfl]; exact hM1) hs1 (fun _ _ _ _ _ => rfl)
    · intro h' hM hs2 hf2
      obtain ⟨o1, o2, o3, o4, o5⟩ := teZ_ok hW hn0 hs0 n
      have hW := WF_h (x0 := S 6 2) o1 (by omega)
      refine xj_iload (pc2 := 58) dX7_teasNow_56 rfl rfl ?_
      refine xj_iload_n (pc2 := 59) dX7_teasNow_58 rfl rfl rfl ?_
      refine xj_cmp_ge (pc2 := 62) (tgt := 81) dX7_teasNow_59 rfl rfl (by omega) (by omega) (fun c_59 => ?_) (fun c_59 => by exfalso; omega)
      refine xj_aload_n (pc2 := 82) dX7_teasNow_81 rfl rfl rfl ?_
      refine xj_V0I (pc2 := 85) (d2 := 0) mok_X7_onHands ml_X7_264 ima_yX7_onHands sel_yX7_onHands rfl rfl dX7_teasNow_82 rfl rfl (by decide) (by decide) (Nat.le_of_ble_eq_true rfl) (fun _ => rfl) ?_
      refine c_X7_onHands hM hW ?_
      refine xj_istore5 (pc2 := 87) dX7_teasNow_85 rfl (by decide) rfl ?_
      refine xj_iconst (pc2 := 88) dX7_teasNow_87 rfl ?_
      refine xj_istore6 (pc2 := 90) dX7_teasNow_88 rfl (by decide) rfl ?_
      exact stage3 _ _ _ rfl (tea_o _ _) hs2 (fun c k q1 q2 q3 q4 q5 => (hf2 c k q1 q2 q5).trans (hf1 c k q3 q4 q5)) (fun i hi => by rw [hf2 168 _ (by decide) (by decide) (Or.inl (by decide)), hf2 169 _ (by decide) (by decide) (Or.inl (by decide))]; exact hsv i hi)
    · intro j hj ih h' hM hs2 hf2
      obtain ⟨o1, o2, o3, o4, o5⟩ := teZ_ok hW hn0 hs0 j
      obtain ⟨p1, p2, p3, p4, p5⟩ := teZ_ok hW hn0 hs0 (j + 1)
      have hWj := WF_h (x0 := S 6 2) o1 (by omega)
      have hWk := WF_h (x0 := S 6 2) p1 (by omega)
      have ep : hset (teZ S s (j + 1)).1 6 2 (S 6 2) = passA (cbd (hset (teZ S s j).1 6 2 (S 6 2)) (teZ S s j).2.1).1 := by
        rw [cbd_h, passA_h]
        rfl
      have es : (teZ S s (j + 1)).2.1 = (cbd (hset (teZ S s j).1 6 2 (S 6 2)) (teZ S s j).2.1).2 := by
        rw [cbd_h]
        rfl
      have ea : (teZ S s (j + 1)).2.2 = (teZ S s j).2.2 + cntz (doP (hset (teZ S s (j + 1)).1 6 2 (S 6 2)) 1) (nW (hset (teZ S s (j + 1)).1 6 2 (S 6 2))) := rfl
      rw [ea] at ih
      rw [es] at ih
      rw [ep] at ih hWk
      refine xj_iload (pc2 := 58) dX7_teasNow_56 rfl rfl ?_
      refine xj_iload_n (pc2 := 59) dX7_teasNow_58 rfl rfl rfl ?_
      refine xj_cmp_ge (pc2 := 62) (tgt := 81) dX7_teasNow_59 rfl rfl (by omega) (by omega) (fun c_59 => by exfalso; omega) (fun c_59 => ?_)
      refine xj_aload_n (pc2 := 63) dX7_teasNow_62 rfl rfl rfl ?_
      refine xj_V0V (pc2 := 66) (d2 := 2) mok_X7_takeTea ml_X7_258 ima_yX7_takeTea sel_yX7_takeTea rfl rfl dX7_teasNow_63 rfl rfl (by decide) (by decide) (Nat.le_of_ble_eq_true rfl) (fun _ => rfl) ?_
      refine c_X7_takeTea hM hWj (by rw [show hset (teZ S s j).1 6 2 (S 6 2) 6 0 = (teZ S s j).1 6 0 from hset_nk (by decide)]; omega) hs2 o4 ?_
      intro h3 hM3 hs3 hf3
      refine xj_iload (pc2 := 68) dX7_teasNow_66 rfl rfl ?_
      refine xj_aload_n (pc2 := 69) dX7_teasNow_68 rfl rfl rfl ?_
      refine xj_V0I (pc2 := 72) (d2 := 5) mok_X7_butting ml_X7_261 ima_yX7_butting sel_yX7_butting rfl rfl dX7_teasNow_69 rfl rfl (by decide) (by decide) (Nat.le_of_ble_eq_true rfl) (fun _ => rfl) ?_
      refine c_X7_butting hM3 hWk ?_
      refine xj_iadd (pc2 := 73) dX7_teasNow_72 rfl ?_
      refine xj_istore4 (pc2 := 75) dX7_teasNow_73 rfl (by decide) rfl ?_
      refine xj_iinc5 (pc2 := 78) dX7_teasNow_75 rfl (by decide) rfl ?_
      refine xj_goto (tgt := 56) dX7_teasNow_78 rfl ?_
      exact ih h3 hM3 hs3 (fun c k q1 q2 q3 => (hf3 c k q1 q2 q3).trans (hf2 c k q1 q2 q3))
  refine cj_of (lo := [some (.ref 9), some (vi n), some (vi s), some (vi x), none, none, none]) mok_X7_teasNow (fun _ => rfl) (fun _ => Nat.le_of_ble_eq_true rfl) ?_
  refine xj_iconst (pc2 := 1) dX7_teasNow_0 rfl ?_
  refine xj_istore4 (pc2 := 3) dX7_teasNow_1 rfl (by decide) rfl ?_
  refine down (P := fun j => ∀ h' : Hp, (∀ c k, c ≠ 168 → c ≠ 169 → h' c k = h c k) → (∀ i : Nat, i < j → h' 168 i = h 150 i ∧ h' 169 i = h 151 i) → XJ none 6 kX7_teasNow h' 3 [some (.ref 9), some (vi n), some (vi s), some (vi x), some (vi j), none, none] [] Q) (n := 6) ?_ ?_ h (fun _ _ _ _ => rfl) (fun i hi => by omega)
  · intro h' hf hr
    have hM1 : RM S h' := RM_eq hM (hf _ _ (by decide) (by decide)) (hf _ _ (by decide) (by decide)) (hf _ _ (by decide) (by decide)) (hf _ _ (by decide) (by decide)) (fun c k q => hf c k (by omega) (by omega))
    refine xj_iload (pc2 := 5) dX7_teasNow_3 rfl rfl ?_
    refine xj_bipush (pc2 := 7) dX7_teasNow_5 rfl (by decide) ?_
    refine xj_cmp_ge (pc2 := 10) (tgt := 44) dX7_teasNow_7 rfl rfl (by omega) (by omega) (fun c_7 => ?_) (fun c_7 => by exfalso; omega)
    refine xj_aload_n (pc2 := 45) dX7_teasNow_44 rfl rfl rfl ?_
    refine xj_iload_n (pc2 := 46) dX7_teasNow_45 rfl rfl rfl ?_
    refine xj_i2l (pc2 := 47) dX7_teasNow_46 rfl (by omega) ?_
    refine xj_putJ (pc2 := 50) (kz := 22) fok_X7_245 dX7_teasNow_47 rfl rfl rfl rfl rfl ?_
    refine xj_iconst (pc2 := 51) dX7_teasNow_50 rfl ?_
    refine xj_istore4 (pc2 := 53) dX7_teasNow_51 rfl (by decide) rfl ?_
    refine xj_iconst (pc2 := 54) dX7_teasNow_53 rfl ?_
    refine xj_istore5 (pc2 := 56) dX7_teasNow_54 rfl (by decide) rfl ?_
    exact stage2 _ (RM_22 hM1) (hset_eq _ _ _ _) (fun c k q1 q2 q3 => by rw [show hset h' 9 22 s c k = h' c k from if_neg (by omega)]; exact hf c k q1 q2) (fun i hi => by rw [hset_nc (by decide), hset_nc (by decide)]; exact hr i hi)
  · intro j hj ih h' hf hr
    refine xj_iload (pc2 := 5) dX7_teasNow_3 rfl rfl ?_
    refine xj_bipush (pc2 := 7) dX7_teasNow_5 rfl (by decide) ?_
    refine xj_cmp_ge (pc2 := 10) (tgt := 44) dX7_teasNow_7 rfl rfl (by omega) (by omega) (fun c_7 => by exfalso; omega) (fun c_7 => ?_)
    refine xj_aload_n (pc2 := 11) dX7_teasNow_10 rfl rfl rfl ?_
    refine xj_getRn (pc2 := 14) (c2 := 168) fok_X7_47 dX7_teasNow_11 rfl rfl rfl rfl rfl ?_
    refine xj_iload (pc2 := 16) dX7_teasNow_14 rfl rfl ?_
    refine xj_aload_n (pc2 := 17) dX7_teasNow_16 rfl rfl rfl ?_
    refine xj_getRn (pc2 := 20) (c2 := 150) fok_X7_16 dX7_teasNow_17 rfl rfl rfl rfl rfl ?_
    refine xj_iload (pc2 := 22) dX7_teasNow_20 rfl rfl ?_
    refine xj_iald (pc2 := 23) dX7_teasNow_22 rfl rfl (by omega) (by omega) rfl ?_
    refine xj_iast (pc2 := 24) dX7_teasNow_23 rfl rfl (by omega) (by omega) ?_
    refine xj_aload_n (pc2 := 25) dX7_teasNow_24 rfl rfl rfl ?_
    refine xj_getRn (pc2 := 28) (c2 := 169) fok_X7_50 dX7_teasNow_25 rfl rfl rfl rfl rfl ?_
    refine xj_iload (pc2 := 30) dX7_teasNow_28 rfl rfl ?_
    refine xj_aload_n (pc2 := 31) dX7_teasNow_30 rfl rfl rfl ?_
    refine xj_getRn (pc2 := 34) (c2 := 151) fok_X7_19 dX7_teasNow_31 rfl rfl rfl rfl rfl ?_
    refine xj_iload (pc2 := 36) dX7_teasNow_34 rfl rfl ?_
    refine xj_iald (pc2 := 37) dX7_teasNow_36 rfl rfl (by omega) (by omega) rfl ?_
    refine xj_iast (pc2 := 38) dX7_teasNow_37 rfl rfl (by omega) (by omega) ?_
    refine xj_iinc4 (pc2 := 41) dX7_teasNow_38 rfl (by decide) rfl ?_
    refine xj_goto (tgt := 3) dX7_teasNow_41 rfl ?_
    refine ih _ (fun c k q1 q2 => by rw [hset_nc q2, hset_nc q1]; exact hf c k q1 q2) (fun i hi => ?_)
    by_cases e : i = j
    · subst e
      constructor
      · rw [hset_nc (by decide), hset_eq, hf 150 _ (by decide) (by decide)]
      · rw [hset_eq, hset_nc (by decide), hf 151 _ (by decide) (by decide)]
    · rw [hset_nc (by decide), hset_nk (by omega), hset_nk (by omega), hset_nc (by decide)]
      exact hr i (by omega)
theorem c_X7_teas {S I : Sh} {len k s x : Int} {pg : Int → Int} {im tr td : Int} {h : Hp} {Q : Int → Hp → Prop} (hK : KM S I len pg im tr td h) (hW : WF S) (hk0 : -2147483648 ≤ k ∧ k ≤ 2147483647) (hs0 : -2147483648 ≤ s ∧ s ≤ 2147483647) (hx : -2147483648 ≤ x ∧ x ≤ 2147483647) (hq : ∀ h', KM S I len pg im tr td h' → FrM h h' → Q (teasZ S k s x) h') : CJ 7 kX7_teas [.ref 9, vi k, vi s, vi x] h Q := by
  have hM := hK.1
  obtain ⟨⟨hn, hw, hh, hs⟩, mG, mN, mE⟩ := id hM
  have hnn := wf_n hW
  unfold teasZ at hq
  refine cj_of (lo := [some (.ref 9), some (vi k), some (vi s), some (vi x)]) mok_X7_teas (fun _ => rfl) (fun _ => Nat.le_of_ble_eq_true rfl) ?_
  refine xj_iload_n (pc2 := 1) dX7_teas_0 rfl rfl rfl ?_
  refine xj_iconst (pc2 := 2) dX7_teas_1 rfl ?_
  refine xj_bipush (pc2 := 4) dX7_teas_2 rfl (by decide) ?_
  refine xj_S3I (pc2 := 7) (d2 := 0) mok_X7_within ml_X7_77 sta_yX7_within dX7_teas_4 rfl rfl (by decide) (by decide) (Nat.le_of_ble_eq_true rfl) (fun _ => rfl) ?_
  refine c_X7_within (by omega) (by omega) (by omega) ?_ ?_
  · -- X7_within = 1
    intro c_4
    refine xj_if_eq (pc2 := 10) (tgt := 23) dX7_teas_7 rfl rfl (by omega) (fun c_7 => absurd c_7 (by decide)) (fun c_7 => ?_)
    refine xj_iload_n (pc2 := 11) dX7_teas_10 rfl rfl rfl ?_
    refine xj_if_lt (pc2 := 14) (tgt := 23) dX7_teas_11 rfl rfl (by omega) (fun c_11 => ?_) (fun c_11 => ?_)
    · -- 23
      refine xj_bipush (pc2 := 25) dX7_teas_23 rfl (by decide) ?_
      refine xj_iret dX7_teas_25 rfl ?_
      rw [if_pos (by omega)] at hq
      exact hq h hK FrM_rf
    · -- 14
      refine xj_iload_n (pc2 := 15) dX7_teas_14 rfl rfl rfl ?_
      refine xj_iconst (pc2 := 16) dX7_teas_15 rfl ?_
      refine xj_iconst (pc2 := 17) dX7_teas_16 rfl ?_
      refine xj_S3I (pc2 := 20) (d2 := 0) mok_X7_within ml_X7_77 sta_yX7_within dX7_teas_17 rfl rfl (by decide) (by decide) (Nat.le_of_ble_eq_true rfl) (fun _ => rfl) ?_
      refine c_X7_within (by omega) (by omega) (by omega) ?_ ?_
      · -- X7_within = 1
        intro c_17
        refine xj_if_ne (pc2 := 23) (tgt := 26) dX7_teas_20 rfl rfl (by omega) (fun c_20 => ?_) (fun c_20 => absurd c_20 (by decide))
        refine xj_aload_n (pc2 := 27) dX7_teas_26 rfl rfl rfl ?_
        refine xj_getI (pc2 := 30) (kz := 1) fok_X7_113 dX7_teas_27 rfl rfl rfl (by decide) rfl (by first | assumption | rfl) ?_
        refine xj_if_ne (pc2 := 33) (tgt := 38) dX7_teas_30 rfl rfl (by omega) (fun c_30 => ?_) (fun c_30 => ?_)
        · -- 38
          refine xj_aload_n (pc2 := 39) dX7_teas_38 rfl rfl rfl ?_
          refine xj_iload_n (pc2 := 40) dX7_teas_39 rfl rfl rfl ?_
          refine xj_iload_n (pc2 := 41) dX7_teas_40 rfl rfl rfl ?_
          refine xj_iload_n (pc2 := 42) dX7_teas_41 rfl rfl rfl ?_
          refine xj_V3I (pc2 := 45) (d2 := 6) mok_X7_teasNow ml_X7_267 ima_yX7_teasNow sel_yX7_teasNow rfl rfl dX7_teas_42 rfl rfl (by decide) (by decide) (Nat.le_of_ble_eq_true rfl) (fun _ => rfl) ?_
          rw [show (k : Int) = ((k.toNat : Nat) : Int) by omega]
          refine c_X7_teasNow hM hW (by omega) (by omega) (by omega) (by omega) ?_
          intro h2 hf2 hr2
          refine xj_iret dX7_teas_45 rfl ?_
          first
          | (rw [if_neg (by omega), if_pos (by omega)] at hq; exact hq h hK FrM_rf)
          | (rw [if_neg (by omega), if_neg (by omega)] at hq
             refine hq h2 (KM_shop hK ⟨⟨(hf2 9 1 (by decide) (by decide) (by decide) (by decide) (by decide)).trans hn, (hf2 9 2 (by decide) (by decide) (by decide) (by decide) (by decide)).trans hw, (hf2 9 9 (by decide) (by decide) (by decide) (by decide) (by decide)).trans hh, (hf2 9 11 (by decide) (by decide) (by decide) (by decide) (by decide)).trans hs⟩, fun g q0 q1 => ?_, fun w q0 q1 => ?_, fun i q0 q1 => ?_⟩ rfl rfl (fun _ => rfl) (fun c j q1 q2 => hf2 c j (by omega) (by omega) (by unfold LM at q1; omega) (by unfold LM at q1; omega) (by unfold LM at q1; omega))) (fun c j q1 q2 => hf2 c j (by omega) (by omega) (by omega) (by omega) (Or.inl q2))
             · have hg2 := hr2 g.toNat (by omega)
               rw [show ((g.toNat : Nat) : Int) = g by omega] at hg2
               rw [hg2.1, hg2.2, hf2 148 _ (by decide) (by decide) (by decide) (by decide) (Or.inl (by decide)), hf2 149 _ (by decide) (by decide) (by decide) (by decide) (Or.inl (by decide))]
               exact mG g q0 q1
             · rw [hf2 152 _ (by decide) (by decide) (by decide) (by decide) (Or.inl (by decide)), hf2 153 _ (by decide) (by decide) (by decide) (by decide) (Or.inl (by decide))]
               exact mN w q0 q1
             · rw [hf2 157 _ (by decide) (by decide) (by decide) (by decide) (Or.inl (by decide)), hf2 158 _ (by decide) (by decide) (by decide) (by decide) (Or.inl (by decide)), hf2 159 _ (by decide) (by decide) (by decide) (by decide) (Or.inl (by decide))]
               exact mE i q0 q1)
        · -- 33
          refine xj_bipush (pc2 := 35) dX7_teas_33 rfl (by decide) ?_
          refine xj_goto (tgt := 45) dX7_teas_35 rfl ?_
          refine xj_iret dX7_teas_45 rfl ?_
          first
          | (rw [if_neg (by omega), if_pos (by omega)] at hq; exact hq h hK FrM_rf)
          | (rw [if_neg (by omega), if_neg (by omega)] at hq
             refine hq h2 (KM_shop hK ⟨⟨(hf2 9 1 (by decide) (by decide) (by decide) (by decide) (by decide)).trans hn, (hf2 9 2 (by decide) (by decide) (by decide) (by decide) (by decide)).trans hw, (hf2 9 9 (by decide) (by decide) (by decide) (by decide) (by decide)).trans hh, (hf2 9 11 (by decide) (by decide) (by decide) (by decide) (by decide)).trans hs⟩, fun g q0 q1 => ?_, fun w q0 q1 => ?_, fun i q0 q1 => ?_⟩ rfl rfl (fun _ => rfl) (fun c j q1 q2 => hf2 c j (by omega) (by omega) (by unfold LM at q1; omega) (by unfold LM at q1; omega) (by unfold LM at q1; omega))) (fun c j q1 q2 => hf2 c j (by omega) (by omega) (by omega) (by omega) (Or.inl q2))
             · have hg2 := hr2 g.toNat (by omega)
               rw [show ((g.toNat : Nat) : Int) = g by omega] at hg2
               rw [hg2.1, hg2.2, hf2 148 _ (by decide) (by decide) (by decide) (by decide) (Or.inl (by decide)), hf2 149 _ (by decide) (by decide) (by decide) (by decide) (Or.inl (by decide))]
               exact mG g q0 q1
             · rw [hf2 152 _ (by decide) (by decide) (by decide) (by decide) (Or.inl (by decide)), hf2 153 _ (by decide) (by decide) (by decide) (by decide) (Or.inl (by decide))]
               exact mN w q0 q1
             · rw [hf2 157 _ (by decide) (by decide) (by decide) (by decide) (Or.inl (by decide)), hf2 158 _ (by decide) (by decide) (by decide) (by decide) (Or.inl (by decide)), hf2 159 _ (by decide) (by decide) (by decide) (by decide) (Or.inl (by decide))]
               exact mE i q0 q1)
      · -- X7_within = 0
        intro c_17
        refine xj_if_ne (pc2 := 23) (tgt := 26) dX7_teas_20 rfl rfl (by omega) (fun c_20 => absurd c_20 (by decide)) (fun c_20 => ?_)
        refine xj_bipush (pc2 := 25) dX7_teas_23 rfl (by decide) ?_
        refine xj_iret dX7_teas_25 rfl ?_
        rw [if_pos (by omega)] at hq
        exact hq h hK FrM_rf
  · -- X7_within = 0
    intro c_4
    refine xj_if_eq (pc2 := 10) (tgt := 23) dX7_teas_7 rfl rfl (by omega) (fun c_7 => ?_) (fun c_7 => absurd c_7 (by decide))
    refine xj_bipush (pc2 := 25) dX7_teas_23 rfl (by decide) ?_
    refine xj_iret dX7_teas_25 rfl ?_
    rw [if_pos (by omega)] at hq
    exact hq h hK FrM_rf
