/-! the model: fault and shop -/
theorem KM_RF {S I : Sh} {len : Int} {pg : Int → Int} {im tr td : Int} {h h' : Hp} (hK : KM S I len pg im tr td h) (hf : RF h h') : KM S I len pg im tr td h' := KM_eq hK (fun c k q => hf c k (by unfold LM at q; omega))
theorem FrM_RF {h h' : Hp} (hf : RF h h') : FrM h h' := fun c k q1 q2 => hf c k (Or.inl q2)
theorem c_X7_fault {S I : Sh} {len : Int} {pg : Int → Int} {im tr td : Int} {h : Hp} {Q : Int → Hp → Prop} (hK : KM S I len pg im tr td h) (hq : ∀ h', KM S I len pg im tr td h' → FrM h h' → Q (fltZ len pg) h') : CJ 4 kX7_fault [.ref 9] h Q := by
  have hP : PG len pg h := hK.2.2.1
  refine cj_of (lo := [some (.ref 9)]) mok_X7_fault (fun _ => rfl) (fun _ => Nat.le_of_ble_eq_true rfl) ?_
  refine xj_aload_n (pc2 := 1) dX7_fault_0 rfl rfl rfl ?_
  refine xj_V0I (pc2 := 4) (d2 := 3) mok_X7_read ml_X7_109 ima_yX7_read sel_yX7_read rfl rfl dX7_fault_1 rfl rfl (by decide) (by decide) (Nat.le_of_ble_eq_true rfl) (fun _ => rfl) ?_
  refine c_X7_read hP ?_
  intro h2 hr2
  refine xj_iret dX7_fault_4 rfl ?_
  exact hq _ (KM_RF hK hr2.1) (FrM_RF hr2.1)
theorem c_X7_shop {S I : Sh} {len : Int} {pg : Int → Int} {im tr td : Int} {h : Hp} {Q : Int → Hp → Prop} (hK : KM S I len pg im tr td h) (h1 : shopP len pg → ∀ h', KM (newS pg (nwG len pg) (nwW len pg)) I 0 pg 0 (tr + 1) td h' → FrM h h' → Q (nwG len pg) h') (h0 : ¬ shopP len pg → ∀ h', KM S I len pg im tr td h' → FrM h h' → Q (-103) h') : CJ 4 kX7_shop [.ref 9] h Q := by
  have hP : PG len pg h := hK.2.2.1
  obtain ⟨hl, hlr, hpg⟩ := id hP
  obtain ⟨kM, k2, k3, k6, k7, k8⟩ := id hK
  have stage2 : ∀ h1 : Hp, shopP len pg → PG len pg h1 → h1 9 1 = nwG len pg → h1 9 2 = nwW len pg → (∀ c k, c ≠ 148 → c ≠ 149 → c ≠ 150 → c ≠ 151 → (c ≠ 9 ∨ (k ≠ 1 ∧ k ≠ 2 ∧ k ≠ 17 ∧ k ≠ 18 ∧ k ≠ 19)) → h1 c k = h c k) → (∀ i : Nat, (i : Int) < nwG len pg → h1 148 i = kindz (pg (3 * i)) ∧ h1 149 i = pg (3 * i + 1) - 48 ∧ h1 150 i = 0 ∧ h1 151 i = -1) → XJ none 4 kX7_shop h1 99 [some (.ref 9), some (vi 0)] [] Q := by
    intro h2 hsp hP2 e1 e2 hf hA
    obtain ⟨s1, s2, s3, s4, s5⟩ := shopP_fact (by omega) hsp
    obtain ⟨W, hW⟩ := Int.eq_ofNat_of_zero_le (show 0 ≤ nwW len pg by omega)
    refine down (P := fun j => ∀ h' : Hp, (∀ c k, c ≠ 152 → c ≠ 153 → h' c k = h2 c k) → (∀ i : Nat, i < j → h' 152 i = pg (3 * nwG len pg + i) - 48 ∧ h' 153 i = 2) → XJ none 4 kX7_shop h' 99 [some (.ref 9), some (vi j)] [] Q) (n := W) ?_ ?_ h2 (fun _ _ _ _ => rfl) (fun i hi => by omega)
    · intro h' hf2 hB
      have g1 : h' 9 1 = nwG len pg := (hf2 9 1 (by decide) (by decide)).trans e1
      have g2 : h' 9 2 = nwW len pg := (hf2 9 2 (by decide) (by decide)).trans e2
      have g0 : h' 9 0 = tr := ((hf2 9 0 (by decide) (by decide)).trans (hf 9 0 (by decide) (by decide) (by decide) (by decide) (by decide))).trans k6
      have fr : ∀ (c : Nat) (k : Int), c ≠ 9 → hset (hset (hset (hset h' 9 9 0) 9 0 (tr + 1)) 9 11 0) 9 15 0 c k = h' c k := fun c k q => by rw [hset_nc q, hset_nc q, hset_nc q, hset_nc q]
      have f9 : ∀ k : Int, k ≠ 0 → k ≠ 9 → k ≠ 11 → k ≠ 15 → hset (hset (hset (hset h' 9 9 0) 9 0 (tr + 1)) 9 11 0) 9 15 0 9 k = h' 9 k := fun k q0 q1 q2 q3 => by rw [hset_nk q3, hset_nk q2, hset_nk q0, hset_nk q1]
      have ho : ∀ k : Int, k ≠ 1 → k ≠ 2 → k ≠ 17 → k ≠ 18 → k ≠ 19 → h' 9 k = h 9 k := fun k q1 q2 q3 q4 q5 => (hf2 9 k (by decide) (by decide)).trans (hf 9 k (by decide) (by decide) (by decide) (by decide) (Or.inr ⟨q1, q2, q3, q4, q5⟩))
      have fin : KM (newS pg (nwG len pg) (nwW len pg)) I 0 pg 0 (tr + 1) td (hset (hset (hset (hset h' 9 9 0) 9 0 (tr + 1)) 9 11 0) 9 15 0) := by
        refine ⟨⟨⟨(f9 1 (by decide) (by decide) (by decide) (by decide)).trans g1, (f9 2 (by decide) (by decide) (by decide) (by decide)).trans g2, by simp [hset]; rfl, by simp [hset]; rfl⟩, fun g q0 q1 => ?_, fun w q0 q1 => ?_, fun i q0 q1 => ?_⟩, fun q => by exact absurd q (by decide), ⟨by simp [hset], by decide, fun i a b => by exfalso; omega⟩, by simp [hset], ?_, ?_⟩
        · have q1 : g < nwG len pg := q1
          have hg := hA g.toNat (by omega)
          rw [show ((g.toNat : Nat) : Int) = g by omega] at hg
          rw [fr 148 _ (by decide), fr 149 _ (by decide), fr 150 _ (by decide), fr 151 _ (by decide), hf2 148 _ (by decide) (by decide), hf2 149 _ (by decide) (by decide), hf2 150 _ (by decide) (by decide), hf2 151 _ (by decide) (by decide)]
          exact hg
        · have q1 : w < nwW len pg := q1
          have hg := hB w.toNat (by omega)
          rw [show ((w.toNat : Nat) : Int) = w by omega] at hg
          rw [fr 152 _ (by decide), fr 153 _ (by decide)]
          exact hg
        · have q1 : i < 0 := q1
          exfalso; omega
        · rw [f9 10 (by decide) (by decide) (by decide) (by decide), ho 10 (by decide) (by decide) (by decide) (by decide) (by decide)]; exact k7
        · rw [f9 25 (by decide) (by decide) (by decide) (by decide), f9 26 (by decide) (by decide) (by decide) (by decide), ho 25 (by decide) (by decide) (by decide) (by decide) (by decide), ho 26 (by decide) (by decide) (by decide) (by decide) (by decide)]
          exact ⟨k8.1, ⟨k8.2.1.1, by omega⟩, fun _ => Or.inr (by omega)⟩
      have hfin := h1 hsp _ fin (fun c k q1 q2 => by rw [fr c k q2, hf2 c k (by omega) (by omega)]; exact hf c k (by omega) (by omega) (by omega) (by omega) (Or.inl q2))
      refine xj_iload_n (pc2 := 100) dX7_shop_99 rfl rfl rfl ?_
      refine xj_aload_n (pc2 := 101) dX7_shop_100 rfl rfl rfl ?_
      refine xj_getI (pc2 := 104) (kz := 2) fok_X7_116 dX7_shop_101 rfl rfl rfl (by decide) rfl (by first | assumption | rfl) ?_
      refine xj_cmp_ge (pc2 := 107) (tgt := 142) dX7_shop_104 rfl rfl (by omega) (by omega) (fun c_104 => ?_) (fun c_104 => by exfalso; omega)
      refine xj_aload_n (pc2 := 143) dX7_shop_142 rfl rfl rfl ?_
      refine xj_iconst (pc2 := 144) dX7_shop_143 rfl ?_
      refine xj_putI (pc2 := 147) (kz := 9) fok_X7_119 dX7_shop_144 rfl rfl rfl rfl rfl ?_
      refine xj_aload_n (pc2 := 148) dX7_shop_147 rfl rfl rfl ?_
      refine xj_dup (pc2 := 149) dX7_shop_148 rfl rfl ?_
      refine xj_getI (pc2 := 152) (kz := 0) fok_X7_122 dX7_shop_149 rfl rfl rfl (by decide) rfl ((hset_nk (by decide)).trans g0) ?_
      refine xj_iconst (pc2 := 153) dX7_shop_152 rfl ?_
      refine xj_iadd (pc2 := 154) dX7_shop_153 rfl ?_
      refine xj_putI (pc2 := 157) (kz := 0) fok_X7_122 dX7_shop_154 rfl rfl rfl rfl rfl ?_
      refine xj_aload_n (pc2 := 158) dX7_shop_157 rfl rfl rfl ?_
      refine xj_iconst (pc2 := 159) dX7_shop_158 rfl ?_
      refine xj_putI (pc2 := 162) (kz := 11) fok_X7_125 dX7_shop_159 rfl rfl rfl rfl rfl ?_
      refine xj_aload_n (pc2 := 163) dX7_shop_162 rfl rfl rfl ?_
      refine xj_iconst (pc2 := 164) dX7_shop_163 rfl ?_
      refine xj_putI (pc2 := 167) (kz := 15) fok_X7_81 dX7_shop_164 rfl rfl rfl rfl rfl ?_
      refine xj_aload_n (pc2 := 168) dX7_shop_167 rfl rfl rfl ?_
      refine xj_getI (pc2 := 171) (kz := 1) fok_X7_113 dX7_shop_168 rfl rfl rfl (by decide) rfl ((f9 1 (by decide) (by decide) (by decide) (by decide)).trans g1) ?_
      refine xj_iret dX7_shop_171 rfl ?_
      exact hfin
    · intro j hj ih h' hf2 hB
      have g1 : h' 9 1 = nwG len pg := (hf2 9 1 (by decide) (by decide)).trans e1
      have g2 : h' 9 2 = nwW len pg := (hf2 9 2 (by decide) (by decide)).trans e2
      have hp := hP2.2.2 (3 * nwG len pg + j) (by omega) (by omega)
      have hp1 : h' 161 (3 * nwG len pg + j) = pg (3 * nwG len pg + j) := (hf2 161 _ (by decide) (by decide)).trans hp.1
      refine xj_iload_n (pc2 := 100) dX7_shop_99 rfl rfl rfl ?_
      refine xj_aload_n (pc2 := 101) dX7_shop_100 rfl rfl rfl ?_
      refine xj_getI (pc2 := 104) (kz := 2) fok_X7_116 dX7_shop_101 rfl rfl rfl (by decide) rfl (by first | assumption | rfl) ?_
      refine xj_cmp_ge (pc2 := 107) (tgt := 142) dX7_shop_104 rfl rfl (by omega) (by omega) (fun c_104 => by exfalso; omega) (fun c_104 => ?_)
      refine xj_aload_n (pc2 := 108) dX7_shop_107 rfl rfl rfl ?_
      refine xj_getRn (pc2 := 111) (c2 := 152) fok_X7_22 dX7_shop_108 rfl rfl rfl rfl rfl ?_
      refine xj_iload_n (pc2 := 112) dX7_shop_111 rfl rfl rfl ?_
      refine xj_aload_n (pc2 := 113) dX7_shop_112 rfl rfl rfl ?_
      refine xj_getRn (pc2 := 116) (c2 := 161) fok_X7_37 dX7_shop_113 rfl rfl rfl rfl rfl ?_
      refine xj_iconst (pc2 := 117) dX7_shop_116 rfl ?_
      refine xj_aload_n (pc2 := 118) dX7_shop_117 rfl rfl rfl ?_
      refine xj_getI (pc2 := 121) (kz := 1) fok_X7_113 dX7_shop_118 rfl rfl rfl (by decide) rfl (by first | assumption | rfl) ?_
      refine xj_imul (pc2 := 122) dX7_shop_121 rfl ?_
      refine xj_iload_n (pc2 := 123) dX7_shop_122 rfl rfl rfl ?_
      refine xj_iadd (pc2 := 124) dX7_shop_123 rfl ?_
      refine xj_bald (pc2 := 125) dX7_shop_124 rfl rfl (by omega) (by omega) hp1 ?_
      refine xj_bipush (pc2 := 127) dX7_shop_125 rfl (by decide) ?_
      refine xj_isub (pc2 := 128) dX7_shop_127 rfl ?_
      refine xj_iast (pc2 := 129) dX7_shop_128 rfl rfl (by omega) (by omega) ?_
      refine xj_aload_n (pc2 := 130) dX7_shop_129 rfl rfl rfl ?_
      refine xj_getRn (pc2 := 133) (c2 := 153) fok_X7_25 dX7_shop_130 rfl rfl rfl rfl rfl ?_
      refine xj_iload_n (pc2 := 134) dX7_shop_133 rfl rfl rfl ?_
      refine xj_iconst (pc2 := 135) dX7_shop_134 rfl ?_
      refine xj_iast (pc2 := 136) dX7_shop_135 rfl rfl (by omega) (by omega) ?_
      refine xj_iinc1 (pc2 := 139) dX7_shop_136 rfl (by decide) rfl ?_
      refine xj_goto (tgt := 99) dX7_shop_139 rfl ?_
      refine ih _ (fun c k q1 q2 => by rw [hset_nc q2, hset_nc q1]; exact hf2 c k q1 q2) (fun i hi => ?_)
      by_cases e : i = j
      · subst e; simp [hset]
      · have hp : ¬ (i : Int) = (j : Int) := by omega
        simp [hset, hp]
        exact hB i (by omega)
  have stage1 : ∀ h1 : Hp, shopP len pg → PG len pg h1 → h1 9 1 = nwG len pg → h1 9 2 = nwW len pg → (∀ c k, (c ≠ 9 ∨ (k ≠ 1 ∧ k ≠ 2 ∧ k ≠ 17 ∧ k ≠ 18 ∧ k ≠ 19)) → h1 c k = h c k) → XJ none 4 kX7_shop h1 33 [some (.ref 9), some (vi 0)] [] Q := by
    intro h2 hsp hP2 e1 e2 hf
    obtain ⟨s1, s2, s3, s4, s5⟩ := shopP_fact (by omega) hsp
    obtain ⟨G, hG⟩ := Int.eq_ofNat_of_zero_le (show 0 ≤ nwG len pg by omega)
    refine down (P := fun j => ∀ h' : Hp, (∀ c k, c ≠ 148 → c ≠ 149 → c ≠ 150 → c ≠ 151 → h' c k = h2 c k) → (∀ i : Nat, i < j → h' 148 i = kindz (pg (3 * i)) ∧ h' 149 i = pg (3 * i + 1) - 48 ∧ h' 150 i = 0 ∧ h' 151 i = -1) → XJ none 4 kX7_shop h' 33 [some (.ref 9), some (vi j)] [] Q) (n := G) ?_ ?_ h2 (fun _ _ _ _ _ _ => rfl) (fun i hi => by omega)
    · intro h' hf2 hB
      have g1 : h' 9 1 = nwG len pg := (hf2 9 1 (by decide) (by decide) (by decide) (by decide)).trans e1
      have g2 : h' 9 2 = nwW len pg := (hf2 9 2 (by decide) (by decide) (by decide) (by decide)).trans e2
      have hP3 : PG len pg h' := ⟨(hf2 9 15 (by decide) (by decide) (by decide) (by decide)).trans hP2.1, hP2.2.1, fun i a b => by rw [hf2 161 i (by decide) (by decide) (by decide) (by decide)]; exact hP2.2.2 i a b⟩
      refine xj_iload_n (pc2 := 34) dX7_shop_33 rfl rfl rfl ?_
      refine xj_aload_n (pc2 := 35) dX7_shop_34 rfl rfl rfl ?_
      refine xj_getI (pc2 := 38) (kz := 1) fok_X7_113 dX7_shop_35 rfl rfl rfl (by decide) rfl (by first | assumption | rfl) ?_
      refine xj_cmp_ge (pc2 := 41) (tgt := 97) dX7_shop_38 rfl rfl (by omega) (by omega) (fun c_38 => ?_) (fun c_38 => by exfalso; omega)
      refine xj_iconst (pc2 := 98) dX7_shop_97 rfl ?_
      refine xj_istore1 (pc2 := 99) dX7_shop_98 rfl rfl (by decide) rfl ?_
      exact stage2 _ hsp hP3 g1 g2 (fun c k q1 q2 q3 q4 q5 => (hf2 c k q1 q2 q3 q4).trans (hf c k q5)) (fun i hi => hB i (by omega))
    · intro j hj ih h' hf2 hB
      have g1 : h' 9 1 = nwG len pg := (hf2 9 1 (by decide) (by decide) (by decide) (by decide)).trans e1
      have hp := hP2.2.2 (3 * j) (by omega) (by omega)
      have hp1 : h' 161 (3 * (j : Int)) = pg (3 * j) := (hf2 161 _ (by decide) (by decide) (by decide) (by decide)).trans hp.1
      have hr := hP2.2.2 (3 * j + 1) (by omega) (by omega)
      have hr1 : h' 161 (3 * (j : Int) + 1) = pg (3 * j + 1) := (hf2 161 _ (by decide) (by decide) (by decide) (by decide)).trans hr.1
      refine xj_iload_n (pc2 := 34) dX7_shop_33 rfl rfl rfl ?_
      refine xj_aload_n (pc2 := 35) dX7_shop_34 rfl rfl rfl ?_
      refine xj_getI (pc2 := 38) (kz := 1) fok_X7_113 dX7_shop_35 rfl rfl rfl (by decide) rfl (by first | assumption | rfl) ?_
      refine xj_cmp_ge (pc2 := 41) (tgt := 97) dX7_shop_38 rfl rfl (by omega) (by omega) (fun c_38 => by exfalso; omega) (fun c_38 => ?_)
      refine xj_aload_n (pc2 := 42) dX7_shop_41 rfl rfl rfl ?_
      refine xj_getRn (pc2 := 45) (c2 := 148) fok_X7_7 dX7_shop_42 rfl rfl rfl rfl rfl ?_
      refine xj_iload_n (pc2 := 46) dX7_shop_45 rfl rfl rfl ?_
      refine xj_aload_n (pc2 := 47) dX7_shop_46 rfl rfl rfl ?_
      refine xj_getRn (pc2 := 50) (c2 := 161) fok_X7_37 dX7_shop_47 rfl rfl rfl rfl rfl ?_
      refine xj_iconst (pc2 := 51) dX7_shop_50 rfl ?_
      refine xj_iload_n (pc2 := 52) dX7_shop_51 rfl rfl rfl ?_
      refine xj_imul (pc2 := 53) dX7_shop_52 rfl ?_
      refine xj_bald (pc2 := 54) dX7_shop_53 rfl rfl (by omega) (by omega) hp1 ?_
      refine xj_S1I (pc2 := 57) (d2 := 0) mok_X7_kindBy ml_X7_103 sta_yX7_kindBy dX7_shop_54 rfl rfl (by decide) (by decide) (Nat.le_of_ble_eq_true rfl) (fun _ => rfl) ?_
      refine c_X7_kindBy (by omega) ?_
      refine xj_iast (pc2 := 58) dX7_shop_57 rfl rfl (by omega) (by omega) ?_
      refine xj_aload_n (pc2 := 59) dX7_shop_58 rfl rfl rfl ?_
      refine xj_getRn (pc2 := 62) (c2 := 149) fok_X7_13 dX7_shop_59 rfl rfl rfl rfl rfl ?_
      refine xj_iload_n (pc2 := 63) dX7_shop_62 rfl rfl rfl ?_
      refine xj_aload_n (pc2 := 64) dX7_shop_63 rfl rfl rfl ?_
      refine xj_getRn (pc2 := 67) (c2 := 161) fok_X7_37 dX7_shop_64 rfl rfl rfl rfl rfl ?_
      refine xj_iconst (pc2 := 68) dX7_shop_67 rfl ?_
      refine xj_iload_n (pc2 := 69) dX7_shop_68 rfl rfl rfl ?_
      refine xj_imul (pc2 := 70) dX7_shop_69 rfl ?_
      refine xj_iconst (pc2 := 71) dX7_shop_70 rfl ?_
      refine xj_iadd (pc2 := 72) dX7_shop_71 rfl ?_
      refine xj_bald (pc2 := 73) dX7_shop_72 rfl rfl (by omega) (by omega) ((hset_nc (by decide)).trans hr1) ?_
      refine xj_bipush (pc2 := 75) dX7_shop_73 rfl (by decide) ?_
      refine xj_isub (pc2 := 76) dX7_shop_75 rfl ?_
      refine xj_iast (pc2 := 77) dX7_shop_76 rfl rfl (by omega) (by omega) ?_
      refine xj_aload_n (pc2 := 78) dX7_shop_77 rfl rfl rfl ?_
      refine xj_getRn (pc2 := 81) (c2 := 150) fok_X7_16 dX7_shop_78 rfl rfl rfl rfl rfl ?_
      refine xj_iload_n (pc2 := 82) dX7_shop_81 rfl rfl rfl ?_
      refine xj_iconst (pc2 := 83) dX7_shop_82 rfl ?_
      refine xj_iast (pc2 := 84) dX7_shop_83 rfl rfl (by omega) (by omega) ?_
      refine xj_aload_n (pc2 := 85) dX7_shop_84 rfl rfl rfl ?_
      refine xj_getRn (pc2 := 88) (c2 := 151) fok_X7_19 dX7_shop_85 rfl rfl rfl rfl rfl ?_
      refine xj_iload_n (pc2 := 89) dX7_shop_88 rfl rfl rfl ?_
      refine xj_iconst (pc2 := 90) dX7_shop_89 rfl ?_
      refine xj_iast (pc2 := 91) dX7_shop_90 rfl rfl (by omega) (by omega) ?_
      refine xj_iinc1 (pc2 := 94) dX7_shop_91 rfl (by decide) rfl ?_
      refine xj_goto (tgt := 33) dX7_shop_94 rfl ?_
      refine ih _ (fun c k q1 q2 q3 q4 => by rw [hset_nc q4, hset_nc q3, hset_nc q2, hset_nc q1]; exact hf2 c k q1 q2 q3 q4) (fun i hi => ?_)
      by_cases e : i = j
      · subst e; simp [hset]
      · have hp : ¬ (i : Int) = (j : Int) := by omega
        simp [hset, hp]
        exact hB i (by omega)
  refine cj_of (lo := [some (.ref 9), none]) mok_X7_shop (fun _ => rfl) (fun _ => Nat.le_of_ble_eq_true rfl) ?_
  refine xj_aload_n (pc2 := 1) dX7_shop_0 rfl rfl rfl ?_
  refine xj_V0I (pc2 := 4) (d2 := 3) mok_X7_read ml_X7_109 ima_yX7_read sel_yX7_read rfl rfl dX7_shop_1 rfl rfl (by decide) (by decide) (Nat.le_of_ble_eq_true rfl) (fun _ => rfl) ?_
  refine c_X7_read hP ?_
  intro h2 hr2
  refine xj_pop (pc2 := 5) dX7_shop_4 rfl rfl ?_
  obtain ⟨r1, r2, r3, r4⟩ := hr2
  refine xj_aload_n (pc2 := 6) dX7_shop_5 rfl rfl rfl ?_
  refine xj_getI (pc2 := 9) (kz := 17) fok_X7_96 dX7_shop_6 rfl rfl rfl (by decide) rfl rfl ?_
  refine xj_if_ne (pc2 := 12) (tgt := 15) dX7_shop_9 rfl rfl (by omega) (fun c_9 => ?_) (fun c_9 => ?_)
  · -- 15
    refine xj_aload_n (pc2 := 16) dX7_shop_15 rfl rfl rfl ?_
    refine xj_aload_n (pc2 := 17) dX7_shop_16 rfl rfl rfl ?_
    refine xj_getI (pc2 := 20) (kz := 18) fok_X7_100 dX7_shop_17 rfl rfl rfl (by decide) rfl (show h2 9 18 = nwG len pg from (r3 (by omega)).2.1) ?_
    refine xj_putI (pc2 := 23) (kz := 1) fok_X7_113 dX7_shop_20 rfl rfl rfl rfl rfl ?_
    refine xj_aload_n (pc2 := 24) dX7_shop_23 rfl rfl rfl ?_
    refine xj_aload_n (pc2 := 25) dX7_shop_24 rfl rfl rfl ?_
    refine xj_getI (pc2 := 28) (kz := 19) fok_X7_89 dX7_shop_25 rfl rfl rfl (by decide) rfl ((hset_nk (by decide)).trans (show h2 9 19 = nwW len pg from (r3 (by omega)).2.2)) ?_
    refine xj_putI (pc2 := 31) (kz := 2) fok_X7_116 dX7_shop_28 rfl rfl rfl rfl rfl ?_
    refine xj_iconst (pc2 := 32) dX7_shop_31 rfl ?_
    refine xj_istore1 (pc2 := 33) dX7_shop_32 rfl rfl (by decide) rfl ?_
    have hr3 := r3 (by omega)
    have hP2 := PG_RF hP r1
    exact stage1 _ hr3.1 ⟨(hset_nk (by decide)).trans ((hset_nk (by decide)).trans hP2.1), hP2.2.1, hP2.2.2⟩ ((hset_nk (by decide)).trans (hset_eq _ _ _ _)) (hset_eq _ _ _ _) (fun c k q => by
      unfold hset
      rw [if_neg (by omega), if_neg (by omega)]
      exact r1 c k (by omega))
  · -- 12
    refine xj_bipush (pc2 := 14) dX7_shop_12 rfl (by decide) ?_
    refine xj_iret dX7_shop_14 rfl ?_
    exact h0 (r4 (by omega)) _ (KM_RF hK r1) (FrM_RF r1)
