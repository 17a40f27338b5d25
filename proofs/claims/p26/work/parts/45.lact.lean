/-! an act of the law -/
theorem kw_S {S S' I : Sh} {im tr td : Int} (k : KW S I im tr td) (h1 : WF S') (h2 : S' 6 2 ≤ 999) : KW S' I im tr td := ⟨h1, h2, k.2.2⟩
theorem hset_same {S : Sh} {c : Nat} {k v : Int} (e : S c k = v) : hset S c k v = S := by
  funext c' k'
  unfold hset
  split
  · rename_i q; rw [q.1, q.2, e]
  · rfl
section AC
variable {c : Nat} {S I : Sh} {pg : Int → Int} {tr : Int} {h : Hp} {Q : Int → Hp → Prop}
theorem RW_2 {v : Int} (hL : RW c S h) : RW c S (hset h c 2 v) := by
  obtain ⟨⟨a1, a2⟩, hG, hN⟩ := hL
  refine ⟨⟨Eq.trans ?_ a1, Eq.trans ?_ a2⟩, fun g h0 h1 => ?_, fun w h0 h1 => ?_⟩
  · exact hset_nk (by omega)
  · exact hset_nk (by omega)
  · obtain ⟨b1, b2, b3, b4, b5⟩ := hG g h0 h1
    exact ⟨(hset_nk (by omega)).trans b1, (hset_nk (by omega)).trans b2, (hset_nk (by omega)).trans b3, (hset_nk (by omega)).trans b4, (hset_nk (by omega)).trans b5⟩
  · obtain ⟨b1, b2⟩ := hN w h0 h1
    exact ⟨(hset_nk (by omega)).trans b1, (hset_nk (by omega)).trans b2⟩
theorem RW_on {g v w s : Int} (hL : RW c S h) (hn : S 6 1 ≤ 3) (hg : 0 ≤ g) (e1 : hold v = w) (e2 : side v = s) : RW c (hset S 3 g v) (hset (hset h c (9 + 5 * g + 3) w) c (9 + 5 * g + 4) s) := by
  obtain ⟨⟨a1, a2⟩, hG, hN⟩ := hL
  refine ⟨⟨Eq.trans ?_ a1, Eq.trans ?_ a2⟩, fun g' h0 h1 => ?_, fun w' h0 h1 => ?_⟩
  · rw [hset_nk (by omega), hset_nk (by omega)]
  · rw [hset_nk (by omega), hset_nk (by omega)]
  · obtain ⟨b1, b2, b3, b4, b5⟩ := hG g' h0 h1
    by_cases e : g' = g
    · subst e
      refine ⟨?_, ?_, ?_, ?_, ?_⟩
      · rw [hset_nk (by omega), hset_nk (by omega), hset_nc (by decide)]; exact b1
      · rw [hset_nk (by omega), hset_nk (by omega), hset_nc (by decide)]; exact b2
      · rw [hset_nk (by omega), hset_nk (by omega), hset_nc (by decide)]; exact b3
      · rw [hset_nk (by omega), show 12 + 5 * g' = 9 + 5 * g' + 3 by omega, hset_eq, hset_eq]; exact e1.symm
      · rw [show 13 + 5 * g' = 9 + 5 * g' + 4 by omega, hset_eq, hset_eq]; exact e2.symm
    · refine ⟨?_, ?_, ?_, ?_, ?_⟩
      · rw [hset_nk (by omega), hset_nk (by omega), hset_nc (by decide)]; exact b1
      · rw [hset_nk (by omega), hset_nk (by omega), hset_nc (by decide)]; exact b2
      · rw [hset_nk (by omega), hset_nk (by omega), hset_nc (by decide)]; exact b3
      · rw [hset_nk (by omega), hset_nk (by omega), hset_nk e]; exact b4
      · rw [hset_nk (by omega), hset_nk (by omega), hset_nk e]; exact b5
  · obtain ⟨b1, b2⟩ := hN w' h0 h1
    have h1 : w' < S 6 1 := h1
    refine ⟨?_, ?_⟩
    · rw [hset_nk (by omega), hset_nk (by omega), hset_nc (by decide)]; exact b1
    · rw [hset_nk (by omega), hset_nk (by omega), hset_nc (by decide)]; exact b2
theorem RW_mark {g v : Int} (hL : RW c S h) (hn : S 6 1 ≤ 3) (hg : 0 ≤ g) : RW c (hset S 1 g v) (hset h c (9 + 5 * g + 1) v) := by
  obtain ⟨⟨a1, a2⟩, hG, hN⟩ := hL
  refine ⟨⟨Eq.trans ?_ a1, Eq.trans ?_ a2⟩, fun g' h0 h1 => ?_, fun w' h0 h1 => ?_⟩
  · rw [hset_nk (by omega)]
  · rw [hset_nk (by omega)]
  · obtain ⟨b1, b2, b3, b4, b5⟩ := hG g' h0 h1
    refine ⟨?_, ?_, ?_, ?_, ?_⟩
    · rw [hset_nk (by omega), hset_nc (by decide)]; exact b1
    · by_cases e : g' = g
      · subst e; rw [show 10 + 5 * g' = 9 + 5 * g' + 1 by omega, hset_eq, hset_eq]
      · rw [hset_nk (by omega), hset_nk e]; exact b2
    · rw [hset_nk (by omega), hset_nc (by decide)]; exact b3
    · rw [hset_nk (by omega), hset_nc (by decide)]; exact b4
    · rw [hset_nk (by omega), hset_nc (by decide)]; exact b5
  · obtain ⟨b1, b2⟩ := hN w' h0 h1
    have h1 : w' < S 6 1 := h1
    refine ⟨?_, ?_⟩
    · rw [hset_nk (by omega), hset_nc (by decide)]; exact b1
    · rw [hset_nk (by omega), hset_nc (by decide)]; exact b2
theorem RW_wish {w n x : Int} (hL : RW c S h) (hn : S 6 1 ≤ 3) (hw : 0 ≤ w ∧ w < 3) : RW c (hset (hset S 4 w n) 5 w x) (hset (hset h c (3 + w) n) c (6 + w) x) := by
  obtain ⟨⟨a1, a2⟩, hG, hN⟩ := hL
  refine ⟨⟨Eq.trans ?_ a1, Eq.trans ?_ a2⟩, fun g' h0 h1 => ?_, fun w' h0 h1 => ?_⟩
  · rw [hset_nk (by omega), hset_nk (by omega)]
  · rw [hset_nk (by omega), hset_nk (by omega)]
  · obtain ⟨b1, b2, b3, b4, b5⟩ := hG g' h0 h1
    refine ⟨?_, ?_, ?_, ?_, ?_⟩
    · rw [hset_nk (by omega), hset_nk (by omega), hset_nc (by decide), hset_nc (by decide)]; exact b1
    · rw [hset_nk (by omega), hset_nk (by omega), hset_nc (by decide), hset_nc (by decide)]; exact b2
    · rw [hset_nk (by omega), hset_nk (by omega), hset_nc (by decide), hset_nc (by decide)]; exact b3
    · rw [hset_nk (by omega), hset_nk (by omega), hset_nc (by decide), hset_nc (by decide)]; exact b4
    · rw [hset_nk (by omega), hset_nk (by omega), hset_nc (by decide), hset_nc (by decide)]; exact b5
  · obtain ⟨b1, b2⟩ := hN w' h0 h1
    have h1 : w' < S 6 1 := h1
    by_cases e : w' = w
    · subst e
      refine ⟨?_, ?_⟩
      · rw [hset_nk (by omega), hset_eq, hset_nc (by decide), hset_eq]
      · rw [hset_eq, hset_eq]
    · refine ⟨?_, ?_⟩
      · rw [hset_nk (by omega), hset_nk (by omega), hset_nc (by decide), hset_nk e]; exact b1
      · rw [hset_nk (by omega), hset_nk (by omega), hset_nk e, hset_nc (by decide)]; exact b2
end AC
section AD
variable {S I : Sh} {pg : Int → Int} {tr : Int} {h : Hp} {Q : Int → Hp → Prop}
theorem JJ_mk {S' : Sh} {h1 h2 : Hp} (hJ : JJ S I pg tr h) (k : KC S' I 0 pg 0 tr 0 h2) (hW' : WF S') (e : ∀ j : Int, j ≠ 2 → S' 6 j = S 6 j) (e2 : S' 6 2 ≤ 999) (hL : RW 145 S' h1) (f : FrC h1 h2) (h22 : h1 145 2 = S' 6 2) : JJ S' I pg tr h2 :=
  ⟨k, kw_S hJ.2.1 hW' e2, RW_eq hL (fun j => f 145 j (by omega)), (f 145 2 (by omega)).trans h22, (e 3 (by decide)).trans hJ.2.2.2.2.1, by rw [e 0 (by decide)]; exact hJ.2.2.2.2.2⟩
theorem c_L_act {x : Int} (hJ : JJ S I pg tr h) (hx : 0 ≤ x ∧ x ≤ 2147483647) (h5 : S 6 2 ≤ 500) (hq : ∀ (S' : Sh) (h' : Hp), JJ S' I pg tr h' → S' 6 2 ≤ S 6 2 + 1 → True → Q 1 h') : CJ 5 kL_act [.ref 0, vi x, .ref 145] h Q := by
  have hW := hJ.2.1.1
  have hL := hJ.2.2.1
  have hs0 := hJ.2.2.2.2.2
  have hnn := wf_n hW
  have hs1 : 0 < S 6 1 := by rcases hW.1 with q | q <;> omega
  have key : ∀ ac k n : Int, 0 ≤ ac ∧ ac < 16 → 0 ≤ k ∧ k < S 6 0 → 0 ≤ n ∧ n < S 6 1 → XJ none 5 kL_act h 35 [some (.ref 0), some (vi x), some (.ref 145), some (vi ac), some (vi k), some (vi n), some (vi (9 + 5 * k)), none] [] Q := by
    intro ac k n hac hg hn'
    have hwg := wf_g hW hg
    have hwn := wf_w hW hn'
    have hhb := hold_b hW hg
    have hm := hold_m hwg.2.2.2.1
    have s83 : ∀ hd : Int, 0 ≤ hd ∧ hd ≤ 1 → XJ none 5 kL_act h 83 [some (.ref 0), some (vi x), some (.ref 145), some (vi ac), some (vi k), some (vi n), some (vi (9 + 5 * k)), some (vi hd)] [] Q := by
      intro hd hs
      have hgo := goZ_rg hW (2 * n + hd)
      have hgs := goZ_spec hW (2 * n + hd)
      have s124 : S 3 k = -1 → goZ S (2 * n + hd) = -1 → XJ none 5 kL_act h 124 [some (.ref 0), some (vi x), some (.ref 145), some (vi ac), some (vi k), some (vi n), some (vi (9 + 5 * k)), some (vi hd)] [] Q := by
        intro o1 o2
        have okw : okW S k n hd := ⟨hg, hn', hs, o1, o2⟩
        have h2nd := hold_2 hn'.1 hs
        have hL1 := RW_on (g := k) hL (by omega) hg.1 h2nd.1 h2nd.2
        have hW1 : WF (hset S 3 k (2 * n + hd)) := WF_hand hW hg (Or.inr ⟨by omega, by omega, by
          rcases hgs with ⟨-, q⟩ | ⟨q, -⟩
          · exact q
          · exfalso; omega⟩)
        have hK1 := KC_w hJ.1 (h' := hset (hset h 145 (9 + 5 * k + 3) n) 145 (9 + 5 * k + 4) hd) (fun c j hc => by rw [hset_nc (by omega), hset_nc (by omega)])
        have hw1 : hset (hset h 145 (9 + 5 * k + 3) n) 145 (9 + 5 * k + 4) hd 145 2 = S 6 2 := by rw [hset_nk (by omega), hset_nk (by omega)]; exact hJ.2.2.2.1
        have hwear := fun Q' q1 q2 => c_X6_wear (Q := Q') (g := k) (w := n) (s := hd) hK1 hJ.2.1 (by omega) (by omega) (by omega) q1 q2
        have e6 : ∀ j : Int, hset S 3 k (2 * n + hd) 6 j = S 6 j := fun j => hset_nc (by decide)
        generalize hset S 3 k (2 * n + hd) = S1 at hL1 hW1 hwear e6
        have hn1 : 0 ≤ n ∧ n < S1 6 1 := by rw [e6]; exact hn'
        have hmr := moodZ_rg hW1 (b := bsum (heldP S1 n) (nG S1)) (m := 0) hn1 (by decide)
        have hnn1 := wf_n hW1
        refine xj_aload_n (pc2 := 125) dL_act_124 rfl rfl rfl ?_
        refine xj_iload (pc2 := 127) dL_act_125 rfl rfl ?_
        refine xj_iconst (pc2 := 128) dL_act_127 rfl ?_
        refine xj_iadd (pc2 := 129) dL_act_128 rfl ?_
        refine xj_iload (pc2 := 131) dL_act_129 rfl rfl ?_
        refine xj_iast (pc2 := 132) dL_act_131 rfl rfl (by omega) (by omega) ?_
        refine xj_aload_n (pc2 := 133) dL_act_132 rfl rfl rfl ?_
        refine xj_iload (pc2 := 135) dL_act_133 rfl rfl ?_
        refine xj_iconst (pc2 := 136) dL_act_135 rfl ?_
        refine xj_iadd (pc2 := 137) dL_act_136 rfl ?_
        refine xj_iload (pc2 := 139) dL_act_137 rfl rfl ?_
        refine xj_iast (pc2 := 140) dL_act_139 rfl rfl (by omega) (by omega) ?_
        refine xj_aload_n (pc2 := 141) dL_act_140 rfl rfl rfl ?_
        refine xj_iload (pc2 := 143) dL_act_141 rfl rfl ?_
        refine xj_iload (pc2 := 145) dL_act_143 rfl rfl ?_
        refine xj_iload (pc2 := 147) dL_act_145 rfl rfl ?_
        refine xj_V3I (pc2 := 150) (d2 := 4) mok_X6_wear ml_L_55 ima_yX6_wear sel_yX6_wear rfl rfl dL_act_147 rfl rfl (by decide) (by decide) (Nat.le_of_ble_eq_true rfl) (fun _ => rfl) ?_
        refine hwear _ (fun ok h2 k2 f2 => ?_) (fun no => absurd okw no)
        have hL2 := RW_eq hL1 (fun j => f2 145 j (by omega))
        unfold moodN
        refine xj_aload_n (pc2 := 151) dL_act_150 rfl rfl rfl ?_
        refine xj_aload_n (pc2 := 152) dL_act_151 rfl rfl rfl ?_
        refine xj_iconst (pc2 := 153) dL_act_152 rfl ?_
        refine xj_iload (pc2 := 155) dL_act_153 rfl rfl ?_
        refine xj_iadd (pc2 := 156) dL_act_155 rfl ?_
        refine xj_iald (pc2 := 157) dL_act_156 rfl rfl (by omega) (by omega) (rn0 hL2 hn1 (by omega)) ?_
        refine xj_aload_n (pc2 := 158) dL_act_157 rfl rfl rfl ?_
        refine xj_iload (pc2 := 160) dL_act_158 rfl rfl ?_
        refine xj_S2I (pc2 := 163) (d2 := 0) mok_L_worn ml_L_58 sta_yL_worn dL_act_160 rfl rfl (by decide) (by decide) (Nat.le_of_ble_eq_true rfl) (fun _ => rfl) ?_
        refine c_L_worn rfl hL2 hW1 (by omega) ?_
        refine xj_iconst (pc2 := 164) dL_act_163 rfl ?_
        refine xj_S4I (pc2 := 167) (d2 := 3) mok_L_mood ml_L_39 sta_yL_mood dL_act_164 rfl rfl (by decide) (by decide) (Nat.le_of_ble_eq_true rfl) (fun _ => rfl) ?_
        refine c_L_mood rfl hL2 hW1 hn1 (by decide) ?_
        refine xj_cmp_ne (pc2 := 170) (tgt := 174) dL_act_167 rfl rfl (by omega) (by omega) (fun c_167 => by exfalso; omega) (fun c_167 => ?_)
        refine xj_iconst (pc2 := 171) dL_act_170 rfl ?_
        refine xj_goto (tgt := 175) dL_act_171 rfl ?_
        refine xj_zret dL_act_175 rfl (by decide) ?_
        exact hq S1 h2 (JJ_mk hJ k2 hW1 (fun j _ => e6 j) (by rw [e6]; omega) hL1 f2 (hw1.trans (e6 2).symm)) (by rw [e6]; omega) trivial
      refine xj_aload_n (pc2 := 84) dL_act_83 rfl rfl rfl ?_
      refine xj_iload (pc2 := 86) dL_act_84 rfl rfl ?_
      refine xj_iconst (pc2 := 87) dL_act_86 rfl ?_
      refine xj_iadd (pc2 := 88) dL_act_87 rfl ?_
      refine xj_iald (pc2 := 89) dL_act_88 rfl rfl (by omega) (by omega) (rk3 hL hg (by omega)) ?_
      refine xj_if_ge (pc2 := 92) (tgt := 103) dL_act_89 rfl rfl (by omega) (fun c_89 => ?_) (fun c_89 => ?_)
      · -- 103
        have nok : ¬ okW S k n hd := fun q => by have q1 := hm.mpr q.2.2.2.1; have q2 := q.2.2.2.2; omega
        refine xj_aload_n (pc2 := 104) dL_act_103 rfl rfl rfl ?_
        refine xj_iload (pc2 := 106) dL_act_104 rfl rfl ?_
        refine xj_iload (pc2 := 108) dL_act_106 rfl rfl ?_
        refine xj_iload (pc2 := 110) dL_act_108 rfl rfl ?_
        refine xj_V3I (pc2 := 113) (d2 := 4) mok_X6_wear ml_L_55 ima_yX6_wear sel_yX6_wear rfl rfl dL_act_110 rfl rfl (by decide) (by decide) (Nat.le_of_ble_eq_true rfl) (fun _ => rfl) ?_
        refine c_X6_wear hJ.1 hJ.2.1 (by omega) (by omega) (by omega) (fun ok => absurd ok nok) (fun _ h2 k2 f2 => ?_)
        rw [show wearR S k n hd = -103 from by unfold wearR; rw [if_neg (fun q => q ⟨hg, hn'⟩), if_neg (fun q => q hs)]]
        refine xj_bipush (pc2 := 115) dL_act_113 rfl (by decide) ?_
        refine xj_cmp_ne (pc2 := 118) (tgt := 122) dL_act_115 rfl rfl (by omega) (by omega) (fun c_115 => by exfalso; omega) (fun c_115 => ?_)
        refine xj_iconst (pc2 := 119) dL_act_118 rfl ?_
        refine xj_goto (tgt := 123) dL_act_119 rfl ?_
        refine xj_zret dL_act_123 rfl (by decide) ?_
        exact hq S h2 (JJ_fr hJ k2 f2) (by omega) trivial
      · -- 92
        refine xj_aload_n (pc2 := 93) dL_act_92 rfl rfl rfl ?_
        refine xj_iload (pc2 := 95) dL_act_93 rfl rfl ?_
        refine xj_iload (pc2 := 97) dL_act_95 rfl rfl ?_
        refine xj_S3I (pc2 := 100) (d2 := 0) mok_L_onHand ml_L_52 sta_yL_onHand dL_act_97 rfl rfl (by decide) (by decide) (Nat.le_of_ble_eq_true rfl) (fun _ => rfl) ?_
        refine c_L_onHand rfl hL hW (by omega) (by omega) ?_
        refine xj_if_lt (pc2 := 103) (tgt := 124) dL_act_100 rfl rfl (by omega) (fun c_100 => ?_) (fun c_100 => ?_)
        · -- 124
          exact s124 (hm.mp (by omega)) (by omega)
        · -- 103
          have nok : ¬ okW S k n hd := fun q => by have q1 := hm.mpr q.2.2.2.1; have q2 := q.2.2.2.2; omega
          refine xj_aload_n (pc2 := 104) dL_act_103 rfl rfl rfl ?_
          refine xj_iload (pc2 := 106) dL_act_104 rfl rfl ?_
          refine xj_iload (pc2 := 108) dL_act_106 rfl rfl ?_
          refine xj_iload (pc2 := 110) dL_act_108 rfl rfl ?_
          refine xj_V3I (pc2 := 113) (d2 := 4) mok_X6_wear ml_L_55 ima_yX6_wear sel_yX6_wear rfl rfl dL_act_110 rfl rfl (by decide) (by decide) (Nat.le_of_ble_eq_true rfl) (fun _ => rfl) ?_
          refine c_X6_wear hJ.1 hJ.2.1 (by omega) (by omega) (by omega) (fun ok => absurd ok nok) (fun _ h2 k2 f2 => ?_)
          rw [show wearR S k n hd = -103 from by unfold wearR; rw [if_neg (fun q => q ⟨hg, hn'⟩), if_neg (fun q => q hs)]]
          refine xj_bipush (pc2 := 115) dL_act_113 rfl (by decide) ?_
          refine xj_cmp_ne (pc2 := 118) (tgt := 122) dL_act_115 rfl rfl (by omega) (by omega) (fun c_115 => by exfalso; omega) (fun c_115 => ?_)
          refine xj_iconst (pc2 := 119) dL_act_118 rfl ?_
          refine xj_goto (tgt := 123) dL_act_119 rfl ?_
          refine xj_zret dL_act_123 rfl (by decide) ?_
          exact hq S h2 (JJ_fr hJ k2 f2) (by omega) trivial
    have s204 : XJ none 5 kL_act (hset (hset h 145 (9 + 5 * k + 3) (-1)) 145 (9 + 5 * k + 4) (-1)) 204 [some (.ref 0), some (vi x), some (.ref 145), some (vi ac), some (vi k), some (vi n), some (vi (9 + 5 * k)), some (vi (hold (S 3 k)))] [] Q := by
      have hL1 := RW_on (g := k) (v := -1) (w := -1) (s := -1) hL (by omega) hg.1 rfl rfl
      have hW1 := WF_hand hW hg (x := -1) (Or.inl rfl)
      have hK1 := KC_w hJ.1 (h' := hset (hset h 145 (9 + 5 * k + 3) (-1)) 145 (9 + 5 * k + 4) (-1)) (fun c j hc => by rw [hset_nc (by omega), hset_nc (by omega)])
      have hw1 : hset (hset h 145 (9 + 5 * k + 3) (-1)) 145 (9 + 5 * k + 4) (-1) 145 2 = S 6 2 := by rw [hset_nk (by omega), hset_nk (by omega)]; exact hJ.2.2.2.1
      by_cases e : S 3 k = -1
      · have e1 := hm.mpr e
        rw [hset_same e] at hL1
        refine xj_aload_n (pc2 := 205) dL_act_204 rfl rfl rfl ?_
        refine xj_iload (pc2 := 207) dL_act_205 rfl rfl ?_
        refine xj_V1I (pc2 := 210) (d2 := 2) mok_X6_off ml_L_62 ima_yX6_off sel_yX6_off rfl rfl dL_act_207 rfl rfl (by decide) (by decide) (Nat.le_of_ble_eq_true rfl) (fun _ => rfl) ?_
        refine c_X6_off hK1 hJ.2.1 (by omega) (fun ok => absurd e ok.2) (fun _ h2 k2 f2 => ?_)
        rw [show offR S k = -103 from by unfold offR; rw [if_neg (fun q => q hg)]]
        refine xj_iload (pc2 := 212) dL_act_210 rfl rfl ?_
        refine xj_if_ge (pc2 := 215) (tgt := 220) dL_act_212 rfl rfl (by omega) (fun c_212 => by exfalso; omega) (fun c_212 => ?_)
        refine xj_bipush (pc2 := 217) dL_act_215 rfl (by decide) ?_
        refine xj_goto (tgt := 222) dL_act_217 rfl ?_
        refine xj_cmp_ne (pc2 := 225) (tgt := 229) dL_act_222 rfl rfl (by omega) (by omega) (fun c_222 => by exfalso; omega) (fun c_222 => ?_)
        refine xj_iconst (pc2 := 226) dL_act_225 rfl ?_
        refine xj_goto (tgt := 230) dL_act_226 rfl ?_
        refine xj_zret dL_act_230 rfl (by decide) ?_
        exact hq S h2 (JJ_mk hJ k2 hW (fun j _ => rfl) (by omega) hL1 f2 hw1) (by omega) trivial
      · have e1 : ¬ hold (S 3 k) = -1 := fun q => e (hm.mp q)
        refine xj_aload_n (pc2 := 205) dL_act_204 rfl rfl rfl ?_
        refine xj_iload (pc2 := 207) dL_act_205 rfl rfl ?_
        refine xj_V1I (pc2 := 210) (d2 := 2) mok_X6_off ml_L_62 ima_yX6_off sel_yX6_off rfl rfl dL_act_207 rfl rfl (by decide) (by decide) (Nat.le_of_ble_eq_true rfl) (fun _ => rfl) ?_
        refine c_X6_off hK1 hJ.2.1 (by omega) (fun ok h2 k2 f2 => ?_) (fun no => absurd ⟨hg, e⟩ no)
        refine xj_iload (pc2 := 212) dL_act_210 rfl rfl ?_
        refine xj_if_ge (pc2 := 215) (tgt := 220) dL_act_212 rfl rfl (by omega) (fun c_212 => ?_) (fun c_212 => by exfalso; omega)
        refine xj_iload (pc2 := 222) dL_act_220 rfl rfl ?_
        refine xj_cmp_ne (pc2 := 225) (tgt := 229) dL_act_222 rfl rfl (by omega) (by omega) (fun c_222 => by exfalso; omega) (fun c_222 => ?_)
        refine xj_iconst (pc2 := 226) dL_act_225 rfl ?_
        refine xj_goto (tgt := 230) dL_act_226 rfl ?_
        refine xj_zret dL_act_230 rfl (by decide) ?_
        exact hq (hset S 3 k (-1)) h2 (JJ_mk hJ k2 hW1 (fun j _ => hset_nc (by decide)) (by rw [hset_nc (by decide)]; omega) hL1 f2 (hw1.trans (hset_nc (by decide)).symm)) (by rw [hset_nc (by decide)]; omega) trivial
    have sbook : ∀ v : Int, 0 ≤ v ∧ v ≤ 9 → XJ none 5 kL_act (hset h 145 (9 + 5 * k + 1) v) 259 [some (.ref 0), some (vi x), some (.ref 145), some (vi ac), some (vi k), some (vi n), some (vi (9 + 5 * k)), some (vi (S 1 k))] [] Q := by
      intro v hv
      have hL1 := RW_mark (g := k) (v := v) hL (by omega) hg.1
      have hK1 := KC_w hJ.1 (h' := hset h 145 (9 + 5 * k + 1) v) (fun c j hc => by rw [hset_nc (by omega)])
      have hw1 : hset h 145 (9 + 5 * k + 1) v 145 2 = S 6 2 := by rw [hset_nk (by omega)]; exact hJ.2.2.2.1
      refine xj_aload_n (pc2 := 260) dL_act_259 rfl rfl rfl ?_
      refine xj_iload (pc2 := 262) dL_act_260 rfl rfl ?_
      refine xj_aload_n (pc2 := 263) dL_act_262 rfl rfl rfl ?_
      refine xj_iload (pc2 := 265) dL_act_263 rfl rfl ?_
      refine xj_iconst (pc2 := 266) dL_act_265 rfl ?_
      refine xj_iadd (pc2 := 267) dL_act_266 rfl ?_
      refine xj_iald (pc2 := 268) dL_act_267 rfl rfl (by omega) (by omega) (hset_eq _ _ _ _) ?_
      refine xj_V2I (pc2 := 271) (d2 := 1) mok_X6_book ml_L_65 ima_yX6_book sel_yX6_book rfl rfl dL_act_268 rfl rfl (by decide) (by decide) (Nat.le_of_ble_eq_true rfl) (fun _ => rfl) ?_
      refine c_X6_book hK1 hJ.2.1 (by omega) (by omega) (fun ok h2 k2 f2 => ?_) (fun no => absurd ⟨hg, hv⟩ no)
      refine xj_iload (pc2 := 273) dL_act_271 rfl rfl ?_
      refine xj_cmp_ne (pc2 := 276) (tgt := 280) dL_act_273 rfl rfl (by omega) (by omega) (fun c_273 => by exfalso; omega) (fun c_273 => ?_)
      refine xj_iconst (pc2 := 277) dL_act_276 rfl ?_
      refine xj_goto (tgt := 281) dL_act_277 rfl ?_
      refine xj_zret dL_act_281 rfl (by decide) ?_
      exact hq (hset S 1 k v) h2 (JJ_mk hJ k2 (WF_mark hW hv) (fun j _ => hset_nc (by decide)) (by rw [hset_nc (by decide)]; omega) hL1 f2 (hw1.trans (hset_nc (by decide)).symm)) (by rw [hset_nc (by decide)]; omega) trivial
    have swish : ∀ a b : Int, 0 ≤ a ∧ a ≤ 9 → 0 ≤ b ∧ b ≤ 2 → XJ none 5 kL_act (hset (hset h 145 (3 + n) a) 145 (6 + n) b) 319 [some (.ref 0), some (vi x), some (.ref 145), some (vi ac), some (vi k), some (vi n), some (vi (9 + 5 * k)), some (vi (S 5 n))] [] Q := by
      intro a b ha hb
      have hL1 := RW_wish (w := n) (n := a) (x := b) hL (by omega) (by omega)
      have hK1 := KC_w hJ.1 (h' := hset (hset h 145 (3 + n) a) 145 (6 + n) b) (fun c j hc => by rw [hset_nc (by omega), hset_nc (by omega)])
      have hw1 : hset (hset h 145 (3 + n) a) 145 (6 + n) b 145 2 = S 6 2 := by rw [hset_nk (by omega), hset_nk (by omega)]; exact hJ.2.2.2.1
      have e6 : ∀ j : Int, hset (hset S 4 n a) 5 n b 6 j = S 6 j := fun j => (hset_nc (by decide)).trans (hset_nc (by decide))
      refine xj_aload_n (pc2 := 320) dL_act_319 rfl rfl rfl ?_
      refine xj_iload (pc2 := 322) dL_act_320 rfl rfl ?_
      refine xj_aload_n (pc2 := 323) dL_act_322 rfl rfl rfl ?_
      refine xj_iconst (pc2 := 324) dL_act_323 rfl ?_
      refine xj_iload (pc2 := 326) dL_act_324 rfl rfl ?_
      refine xj_iadd (pc2 := 327) dL_act_326 rfl ?_
      refine xj_iald (pc2 := 328) dL_act_327 rfl rfl (by omega) (by omega) ((hset_nk (by omega)).trans (hset_eq _ _ _ _)) ?_
      refine xj_aload_n (pc2 := 329) dL_act_328 rfl rfl rfl ?_
      refine xj_bipush (pc2 := 331) dL_act_329 rfl (by decide) ?_
      refine xj_iload (pc2 := 333) dL_act_331 rfl rfl ?_
      refine xj_iadd (pc2 := 334) dL_act_333 rfl ?_
      refine xj_iald (pc2 := 335) dL_act_334 rfl rfl (by omega) (by omega) (hset_eq _ _ _ _) ?_
      refine xj_V3I (pc2 := 338) (d2 := 1) mok_X6_wish ml_L_69 ima_yX6_wish sel_yX6_wish rfl rfl dL_act_335 rfl rfl (by decide) (by decide) (Nat.le_of_ble_eq_true rfl) (fun _ => rfl) ?_
      refine c_X6_wish hK1 hJ.2.1 (by omega) (by omega) (by omega) (fun ok h2 k2 f2 => ?_) (fun no => absurd ⟨hn', ha, hb⟩ no)
      refine xj_iload (pc2 := 340) dL_act_338 rfl rfl ?_
      refine xj_cmp_ne (pc2 := 343) (tgt := 347) dL_act_340 rfl rfl (by omega) (by omega) (fun c_340 => by exfalso; omega) (fun c_340 => ?_)
      refine xj_iconst (pc2 := 344) dL_act_343 rfl ?_
      refine xj_goto (tgt := 348) dL_act_344 rfl ?_
      refine xj_zret dL_act_348 rfl (by decide) ?_
      exact hq (hset (hset S 4 n a) 5 n b) h2 (JJ_mk hJ k2 (WF_wish hW ha hb) (fun j _ => e6 j) (by rw [e6]; omega) hL1 f2 (hw1.trans (e6 2).symm)) (by rw [e6]; omega) trivial
    refine xj_iload_n (pc2 := 36) dL_act_35 rfl rfl rfl ?_
    refine xj_bipush (pc2 := 38) dL_act_36 rfl (by decide) ?_
    refine xj_cmp_ge (pc2 := 41) (tgt := 68) dL_act_38 rfl rfl (by omega) (by omega) (fun c_38 => ?_) (fun c_38 => ?_)
    · -- 68
      refine xj_iload_n (pc2 := 69) dL_act_68 rfl rfl rfl ?_
      refine xj_bipush (pc2 := 71) dL_act_69 rfl (by decide) ?_
      refine xj_cmp_ge (pc2 := 74) (tgt := 176) dL_act_71 rfl rfl (by omega) (by omega) (fun c_71 => ?_) (fun c_71 => ?_)
      · -- 176
        refine xj_iload_n (pc2 := 177) dL_act_176 rfl rfl rfl ?_
        refine xj_bipush (pc2 := 179) dL_act_177 rfl (by decide) ?_
        refine xj_cmp_ge (pc2 := 182) (tgt := 231) dL_act_179 rfl rfl (by omega) (by omega) (fun c_179 => ?_) (fun c_179 => ?_)
        · -- 231
          refine xj_iload_n (pc2 := 232) dL_act_231 rfl rfl rfl ?_
          refine xj_bipush (pc2 := 234) dL_act_232 rfl (by decide) ?_
          refine xj_cmp_ge (pc2 := 237) (tgt := 282) dL_act_234 rfl rfl (by omega) (by omega) (fun c_234 => ?_) (fun c_234 => ?_)
          · -- 282
            refine xj_aload_n (pc2 := 283) dL_act_282 rfl rfl rfl ?_
            refine xj_bipush (pc2 := 285) dL_act_283 rfl (by decide) ?_
            refine xj_iload (pc2 := 287) dL_act_285 rfl rfl ?_
            refine xj_iadd (pc2 := 288) dL_act_287 rfl ?_
            refine xj_iald (pc2 := 289) dL_act_288 rfl rfl (by omega) (by omega) (rn1 hL hn' (by omega)) ?_
            refine xj_istore7 (pc2 := 291) dL_act_289 rfl (by decide) rfl ?_
            refine xj_aload_n (pc2 := 292) dL_act_291 rfl rfl rfl ?_
            refine xj_iconst (pc2 := 293) dL_act_292 rfl ?_
            refine xj_iload (pc2 := 295) dL_act_293 rfl rfl ?_
            refine xj_iadd (pc2 := 296) dL_act_295 rfl ?_
            refine xj_iload_n (pc2 := 297) dL_act_296 rfl rfl rfl ?_
            refine xj_sipush (pc2 := 300) dL_act_297 rfl (by decide) ?_
            refine xj_idiv (pc2 := 301) dL_act_300 rfl (by omega) (by omega) ?_
            refine xj_bipush (pc2 := 303) dL_act_301 rfl (by decide) ?_
            refine xj_irem (pc2 := 304) dL_act_303 rfl (by omega) (by omega) ?_
            refine xj_iast (pc2 := 305) dL_act_304 rfl rfl (by omega) (by omega) ?_
            refine xj_aload_n (pc2 := 306) dL_act_305 rfl rfl rfl ?_
            refine xj_bipush (pc2 := 308) dL_act_306 rfl (by decide) ?_
            refine xj_iload (pc2 := 310) dL_act_308 rfl rfl ?_
            refine xj_iadd (pc2 := 311) dL_act_310 rfl ?_
            refine xj_iload_n (pc2 := 312) dL_act_311 rfl rfl rfl ?_
            refine xj_sipush (pc2 := 315) dL_act_312 rfl (by decide) ?_
            refine xj_idiv (pc2 := 316) dL_act_315 rfl (by omega) (by omega) ?_
            refine xj_iconst (pc2 := 317) dL_act_316 rfl ?_
            refine xj_irem (pc2 := 318) dL_act_317 rfl (by omega) (by omega) ?_
            refine xj_iast (pc2 := 319) dL_act_318 rfl rfl (by omega) (by omega) ?_
            exact swish _ _ (by omega) (by omega)
          · -- 237
            refine xj_aload_n (pc2 := 238) dL_act_237 rfl rfl rfl ?_
            refine xj_iload (pc2 := 240) dL_act_238 rfl rfl ?_
            refine xj_iconst (pc2 := 241) dL_act_240 rfl ?_
            refine xj_iadd (pc2 := 242) dL_act_241 rfl ?_
            refine xj_iald (pc2 := 243) dL_act_242 rfl rfl (by omega) (by omega) (rk1 hL hg (by omega)) ?_
            refine xj_istore7 (pc2 := 245) dL_act_243 rfl (by decide) rfl ?_
            refine xj_aload_n (pc2 := 246) dL_act_245 rfl rfl rfl ?_
            refine xj_iload (pc2 := 248) dL_act_246 rfl rfl ?_
            refine xj_iconst (pc2 := 249) dL_act_248 rfl ?_
            refine xj_iadd (pc2 := 250) dL_act_249 rfl ?_
            refine xj_iload_n (pc2 := 251) dL_act_250 rfl rfl rfl ?_
            refine xj_sipush (pc2 := 254) dL_act_251 rfl (by decide) ?_
            refine xj_idiv (pc2 := 255) dL_act_254 rfl (by omega) (by omega) ?_
            refine xj_bipush (pc2 := 257) dL_act_255 rfl (by decide) ?_
            refine xj_irem (pc2 := 258) dL_act_257 rfl (by omega) (by omega) ?_
            refine xj_iast (pc2 := 259) dL_act_258 rfl rfl (by omega) (by omega) ?_
            exact sbook _ (by omega)
        · -- 182
          refine xj_aload_n (pc2 := 183) dL_act_182 rfl rfl rfl ?_
          refine xj_iload (pc2 := 185) dL_act_183 rfl rfl ?_
          refine xj_iconst (pc2 := 186) dL_act_185 rfl ?_
          refine xj_iadd (pc2 := 187) dL_act_186 rfl ?_
          refine xj_iald (pc2 := 188) dL_act_187 rfl rfl (by omega) (by omega) (rk3 hL hg (by omega)) ?_
          refine xj_istore7 (pc2 := 190) dL_act_188 rfl (by decide) rfl ?_
          refine xj_aload_n (pc2 := 191) dL_act_190 rfl rfl rfl ?_
          refine xj_iload (pc2 := 193) dL_act_191 rfl rfl ?_
          refine xj_iconst (pc2 := 194) dL_act_193 rfl ?_
          refine xj_iadd (pc2 := 195) dL_act_194 rfl ?_
          refine xj_iconst (pc2 := 196) dL_act_195 rfl ?_
          refine xj_iast (pc2 := 197) dL_act_196 rfl rfl (by omega) (by omega) ?_
          refine xj_aload_n (pc2 := 198) dL_act_197 rfl rfl rfl ?_
          refine xj_iload (pc2 := 200) dL_act_198 rfl rfl ?_
          refine xj_iconst (pc2 := 201) dL_act_200 rfl ?_
          refine xj_iadd (pc2 := 202) dL_act_201 rfl ?_
          refine xj_iconst (pc2 := 203) dL_act_202 rfl ?_
          refine xj_iast (pc2 := 204) dL_act_203 rfl rfl (by omega) (by omega) ?_
          exact s204
      · -- 74
        refine xj_iload_n (pc2 := 75) dL_act_74 rfl rfl rfl ?_
        refine xj_sipush (pc2 := 78) dL_act_75 rfl (by decide) ?_
        refine xj_idiv (pc2 := 79) dL_act_78 rfl (by omega) (by omega) ?_
        refine xj_iconst (pc2 := 80) dL_act_79 rfl ?_
        refine xj_irem (pc2 := 81) dL_act_80 rfl (by omega) (by omega) ?_
        refine xj_istore7 (pc2 := 83) dL_act_81 rfl (by decide) rfl ?_
        exact s83 _ (by omega)
    · -- 41
      refine xj_aload_n (pc2 := 42) dL_act_41 rfl rfl rfl ?_
      refine xj_S1V (pc2 := 45) (d2 := 0) mok_L_hour ml_L_46 sta_yL_hour dL_act_42 rfl rfl (by decide) (by decide) (Nat.le_of_ble_eq_true rfl) (fun _ => rfl) ?_
      refine c_L_hour rfl hL hW ?_
      intro h2 hL2 g1 g2
      refine xj_aload_n (pc2 := 46) dL_act_45 rfl rfl rfl ?_
      refine xj_iconst (pc2 := 47) dL_act_46 rfl ?_
      refine xj_dup2 (pc2 := 48) dL_act_47 rfl rfl rfl ?_
      refine xj_iald (pc2 := 49) dL_act_48 rfl rfl (by omega) (by omega) ((g1 2 (by omega)).trans hJ.2.2.2.1) ?_
      refine xj_iconst (pc2 := 50) dL_act_49 rfl ?_
      refine xj_iadd (pc2 := 51) dL_act_50 rfl ?_
      refine xj_iast (pc2 := 52) dL_act_51 rfl rfl (by omega) (by omega) ?_
      refine xj_aload_n (pc2 := 53) dL_act_52 rfl rfl rfl ?_
      refine xj_V0I (pc2 := 56) (d2 := 2) mok_X6_hour ml_L_50 ima_yX6_hour sel_yX6_hour rfl rfl dL_act_53 rfl rfl (by decide) (by decide) (Nat.le_of_ble_eq_true rfl) (fun _ => rfl) ?_
      have hK1 := KC_w hJ.1 (h' := hset h2 145 2 (S 6 2 + 1)) (fun c j hc => by rw [hset_nc (by omega), g2 c j (by omega)])
      refine c_X6_hour hK1 hJ.2.1 (fun ok h3 k3 f3 => ?_) (fun no => absurd ⟨hs0, by omega⟩ no)
      refine xj_aload_n (pc2 := 57) dL_act_56 rfl rfl rfl ?_
      refine xj_iconst (pc2 := 58) dL_act_57 rfl ?_
      refine xj_iald (pc2 := 59) dL_act_58 rfl rfl (by omega) (by omega) ((f3 145 2 (by omega)).trans (hset_eq _ _ _ _)) ?_
      refine xj_cmp_ne (pc2 := 62) (tgt := 66) dL_act_59 rfl rfl (by omega) (by omega) (fun c_59 => by exfalso; omega) (fun c_59 => ?_)
      refine xj_iconst (pc2 := 63) dL_act_62 rfl ?_
      refine xj_goto (tgt := 67) dL_act_63 rfl ?_
      refine xj_zret dL_act_67 rfl (by decide) ?_
      exact hq (passS S) h3 (JJ_mk hJ k3 (WF_pass hW) (fun j hj => passS_t (by decide) (Or.inr hj)) (by rw [passS_h]; omega) (RW_2 hL2) f3 ((hset_eq _ _ _ _).trans passS_h.symm)) (by rw [passS_h]; omega) trivial
  have hk : 0 ≤ x / 16 % S 6 0 ∧ x / 16 % S 6 0 < S 6 0 := ⟨Int.emod_nonneg _ (by omega), Int.emod_lt_of_pos _ hs0⟩
  have hn : 0 ≤ x / 128 % S 6 1 ∧ x / 128 % S 6 1 < S 6 1 := ⟨Int.emod_nonneg _ (by omega), Int.emod_lt_of_pos _ hs1⟩
  refine cj_of (lo := [some (.ref 0), some (vi x), some (.ref 145), none, none, none, none, none]) mok_L_act (fun _ => rfl) (fun _ => Nat.le_of_ble_eq_true rfl) ?_
  refine xj_iload_n (pc2 := 1) dL_act_0 rfl rfl rfl ?_
  refine xj_bipush (pc2 := 3) dL_act_1 rfl (by decide) ?_
  refine xj_irem (pc2 := 4) dL_act_3 rfl (by omega) (by omega) ?_
  refine xj_istore3 (pc2 := 5) dL_act_4 rfl rfl (by decide) rfl ?_
  refine xj_iload_n (pc2 := 6) dL_act_5 rfl rfl rfl ?_
  refine xj_bipush (pc2 := 8) dL_act_6 rfl (by decide) ?_
  refine xj_idiv (pc2 := 9) dL_act_8 rfl (by omega) (by omega) ?_
  refine xj_aload_n (pc2 := 10) dL_act_9 rfl rfl rfl ?_
  refine xj_iconst (pc2 := 11) dL_act_10 rfl ?_
  refine xj_iald (pc2 := 12) dL_act_11 rfl rfl (by omega) (by omega) hL.1.1 ?_
  refine xj_irem (pc2 := 13) dL_act_12 rfl (by omega) (by omega) ?_
  refine xj_istore4 (pc2 := 15) dL_act_13 rfl (by decide) rfl ?_
  refine xj_iload_n (pc2 := 16) dL_act_15 rfl rfl rfl ?_
  refine xj_sipush (pc2 := 19) dL_act_16 rfl (by decide) ?_
  refine xj_idiv (pc2 := 20) dL_act_19 rfl (by omega) (by omega) ?_
  refine xj_aload_n (pc2 := 21) dL_act_20 rfl rfl rfl ?_
  refine xj_iconst (pc2 := 22) dL_act_21 rfl ?_
  refine xj_iald (pc2 := 23) dL_act_22 rfl rfl (by omega) (by omega) hL.1.2 ?_
  refine xj_irem (pc2 := 24) dL_act_23 rfl (by omega) (by omega) ?_
  refine xj_istore5 (pc2 := 26) dL_act_24 rfl (by decide) rfl ?_
  refine xj_bipush (pc2 := 28) dL_act_26 rfl (by decide) ?_
  refine xj_iconst (pc2 := 29) dL_act_28 rfl ?_
  refine xj_iload (pc2 := 31) dL_act_29 rfl rfl ?_
  refine xj_imul (pc2 := 32) dL_act_31 rfl ?_
  refine xj_iadd (pc2 := 33) dL_act_32 rfl ?_
  refine xj_istore6 (pc2 := 35) dL_act_33 rfl (by decide) rfl ?_
  exact key _ _ _ (by omega) hk hn
end AD
