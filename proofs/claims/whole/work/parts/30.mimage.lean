/-! the model: image and restore -/
def IB (h : Hp) (t H n : Int) (h' : Hp) : Prop := (∀ c k, (c < 174 ∨ 181 < c) → (c ≠ 9 ∨ (k ≠ 25 ∧ k ≠ 26 ∧ k ≠ 27 ∧ k ≠ 28)) → h' c k = h c k) ∧ (h' 9 25 = 1 ∧ h' 9 26 = t ∧ h' 9 27 = H ∧ h' 9 28 = n)
theorem IB_set {h h' : Hp} {t H n : Int} (b : IB h t H n h') {c : Nat} {k v : Int} (hc : 174 ≤ c ∧ c ≤ 181) : IB h t H n (hset h' c k v) := by
  obtain ⟨b1, b2, b3, b4, b5⟩ := b
  refine ⟨fun c' k' q1 q2 => (hset_nc (by omega)).trans (b1 c' k' q1 q2), ?_, ?_, ?_, ?_⟩
  · rw [hset_nc (by omega)]; exact b2
  · rw [hset_nc (by omega)]; exact b3
  · rw [hset_nc (by omega)]; exact b4
  · rw [hset_nc (by omega)]; exact b5
theorem c_X7_image {S I : Sh} {len : Int} {pg : Int → Int} {im tr td : Int} {h : Hp} {Q : Int → Hp → Prop} (hK : KM S I len pg im tr td h) (hW : WF S) (htr : 0 ≤ tr) (h1 : 0 < S 6 0 → ∀ h', KM S S len pg 1 tr td h' → FrM h h' → Q (S 6 2) h') (h0 : ¬ 0 < S 6 0 → Q (-103) h) : CJ 0 kX7_image [.ref 9] h Q := by
  have hM := hK.1
  obtain ⟨⟨hn, hw, hh, hs⟩, mG, mN, mE⟩ := id hM
  have hnn := wf_n hW
  have hsh := hK.2.2.2.1
  have stage3 : ∀ h2 : Hp, 0 < S 6 0 → IB h tr (S 6 2) (S 6 3) h2 → (∀ i : Nat, i < 6 → h2 174 i = h 149 i ∧ h2 175 i = h 150 i ∧ h2 176 i = h 151 i) → (∀ i : Nat, i < 3 → h2 177 i = h 152 i ∧ h2 178 i = h 153 i) → XJ none 0 kX7_image h2 128 [some (.ref 9), some (vi 0)] [] Q := by
    intro h2 hpos hB hA1 hA2
    refine down (P := fun j => ∀ h' : Hp, IB h tr (S 6 2) (S 6 3) h' → (∀ c k, c < 179 → h' c k = h2 c k) → (∀ i : Nat, i < j → h' 179 i = h 157 i ∧ h' 180 i = h 158 i ∧ h' 181 i = h 159 i) → XJ none 0 kX7_image h' 128 [some (.ref 9), some (vi j)] [] Q) (n := 8) ?_ ?_ h2 hB (fun _ _ _ => rfl) (fun i hi => by omega)
    · intro h' hB hf hA3
      obtain ⟨b1, b2, b3, b4, b5⟩ := id hB
      have hM' : RM S h' := RM_eq hM (b1 9 _ (by decide) (by decide)) (b1 9 _ (by decide) (by decide)) (b1 9 _ (by decide) (by decide)) (b1 9 _ (by decide) (by decide)) (fun c k q => b1 c k (by omega) (by omega))
      obtain ⟨k1, k2, ⟨k3, k4, k5⟩, k6, k7, k8⟩ := id hK
      have hfin := h1 hpos h' ⟨hM', fun _ => ⟨⟨b4, b5⟩, fun g q0 q1 => ?_, fun w q0 q1 => ?_, fun i q0 q1 => ?_, ⟨b2, b3⟩, rfl, rfl, fun _ _ _ => rfl⟩, ⟨(b1 9 15 (by decide) (by decide)).trans k3, k4, fun i q0 q1 => by rw [b1 161 _ (by decide) (Or.inl (by decide))]; exact k5 i q0 q1⟩, (b1 9 0 (by decide) (by decide)).trans k6, (b1 9 10 (by decide) (by decide)).trans k7, ⟨by rw [b2]; decide, by rw [b3]; omega, fun q => by exact absurd q (by decide)⟩⟩ (fun c k q1 q2 => b1 c k (by omega) (Or.inl q2))
      · have hh' : h' 9 9 = S 6 2 := hM'.1.2.2.1
        refine xj_iload_n (pc2 := 129) dX7_image_128 rfl rfl rfl ?_
        refine xj_bipush (pc2 := 131) dX7_image_129 rfl (by decide) ?_
        refine xj_cmp_ge (pc2 := 134) (tgt := 176) dX7_image_131 rfl rfl (by omega) (by omega) (fun c_131 => ?_) (fun c_131 => by exfalso; omega)
        refine xj_aload_n (pc2 := 177) dX7_image_176 rfl rfl rfl ?_
        refine xj_getI (pc2 := 180) (kz := 9) fok_X7_119 dX7_image_177 rfl rfl rfl (by decide) rfl (by first | assumption | rfl) ?_
        refine xj_iret dX7_image_180 rfl ?_
        exact hfin
      · have hg := hA1 g.toNat (by omega)
        rw [show ((g.toNat : Nat) : Int) = g by omega] at hg
        rw [hf 174 _ (by decide), hf 175 _ (by decide), hf 176 _ (by decide), hg.1, hg.2.1, hg.2.2]
        exact (mG g q0 q1).2
      · have hg := hA2 w.toNat (by omega)
        rw [show ((w.toNat : Nat) : Int) = w by omega] at hg
        rw [hf 177 _ (by decide), hf 178 _ (by decide), hg.1, hg.2]
        exact mN w q0 q1
      · have hg := hA3 i.toNat (by omega)
        rw [show ((i.toNat : Nat) : Int) = i by omega] at hg
        rw [hg.1, hg.2.1, hg.2.2]
        exact mE i q0 q1
    · intro j hj ih h' hB hf hA3
      have l1 : h' 157 (j : Int) = h 157 j := hB.1 157 _ (by decide) (Or.inl (by decide))
      have l2 : h' 158 (j : Int) = h 158 j := hB.1 158 _ (by decide) (Or.inl (by decide))
      have l3 : h' 159 (j : Int) = h 159 j := hB.1 159 _ (by decide) (Or.inl (by decide))
      refine xj_iload_n (pc2 := 129) dX7_image_128 rfl rfl rfl ?_
      refine xj_bipush (pc2 := 131) dX7_image_129 rfl (by decide) ?_
      refine xj_cmp_ge (pc2 := 134) (tgt := 176) dX7_image_131 rfl rfl (by omega) (by omega) (fun c_131 => by exfalso; omega) (fun c_131 => ?_)
      refine xj_aload_n (pc2 := 135) dX7_image_134 rfl rfl rfl ?_
      refine xj_getRn (pc2 := 138) (c2 := 179) fok_X7_68 dX7_image_135 rfl rfl rfl rfl rfl ?_
      refine xj_iload_n (pc2 := 139) dX7_image_138 rfl rfl rfl ?_
      refine xj_aload_n (pc2 := 140) dX7_image_139 rfl rfl rfl ?_
      refine xj_getRn (pc2 := 143) (c2 := 157) fok_X7_28 dX7_image_140 rfl rfl rfl rfl rfl ?_
      refine xj_iload_n (pc2 := 144) dX7_image_143 rfl rfl rfl ?_
      refine xj_iald (pc2 := 145) dX7_image_144 rfl rfl (by omega) (by omega) l1 ?_
      refine xj_iast (pc2 := 146) dX7_image_145 rfl rfl (by omega) (by omega) ?_
      refine xj_aload_n (pc2 := 147) dX7_image_146 rfl rfl rfl ?_
      refine xj_getRn (pc2 := 150) (c2 := 180) fok_X7_71 dX7_image_147 rfl rfl rfl rfl rfl ?_
      refine xj_iload_n (pc2 := 151) dX7_image_150 rfl rfl rfl ?_
      refine xj_aload_n (pc2 := 152) dX7_image_151 rfl rfl rfl ?_
      refine xj_getRn (pc2 := 155) (c2 := 158) fok_X7_31 dX7_image_152 rfl rfl rfl rfl rfl ?_
      refine xj_iload_n (pc2 := 156) dX7_image_155 rfl rfl rfl ?_
      refine xj_iald (pc2 := 157) dX7_image_156 rfl rfl (by omega) (by omega) ((hset_nc (by decide)).trans l2) ?_
      refine xj_iast (pc2 := 158) dX7_image_157 rfl rfl (by omega) (by omega) ?_
      refine xj_aload_n (pc2 := 159) dX7_image_158 rfl rfl rfl ?_
      refine xj_getRn (pc2 := 162) (c2 := 181) fok_X7_74 dX7_image_159 rfl rfl rfl rfl rfl ?_
      refine xj_iload_n (pc2 := 163) dX7_image_162 rfl rfl rfl ?_
      refine xj_aload_n (pc2 := 164) dX7_image_163 rfl rfl rfl ?_
      refine xj_getRn (pc2 := 167) (c2 := 159) fok_X7_34 dX7_image_164 rfl rfl rfl rfl rfl ?_
      refine xj_iload_n (pc2 := 168) dX7_image_167 rfl rfl rfl ?_
      refine xj_iald (pc2 := 169) dX7_image_168 rfl rfl (by omega) (by omega) ((hset_nc (by decide)).trans ((hset_nc (by decide)).trans l3)) ?_
      refine xj_iast (pc2 := 170) dX7_image_169 rfl rfl (by omega) (by omega) ?_
      refine xj_iinc1 (pc2 := 173) dX7_image_170 rfl (by decide) rfl ?_
      refine xj_goto (tgt := 128) dX7_image_173 rfl ?_
      refine ih _ (IB_set (IB_set (IB_set hB (by decide)) (by decide)) (by decide)) (fun c k q => by rw [hset_nc (by omega), hset_nc (by omega), hset_nc (by omega)]; exact hf c k q) (fun i hi => ?_)
      by_cases e : i = j
      · subst e; simp [hset]
      · have hp : ¬ (i : Int) = (j : Int) := by omega
        simp [hset, hp]
        exact hA3 i (by omega)
  have stage2 : ∀ h2 : Hp, 0 < S 6 0 → IB h tr (S 6 2) (S 6 3) h2 → (∀ i : Nat, i < 6 → h2 174 i = h 149 i ∧ h2 175 i = h 150 i ∧ h2 176 i = h 151 i) → XJ none 0 kX7_image h2 91 [some (.ref 9), some (vi 0)] [] Q := by
    intro h2 hpos hB hA1
    refine down (P := fun j => ∀ h' : Hp, IB h tr (S 6 2) (S 6 3) h' → (∀ c k, c < 177 → h' c k = h2 c k) → (∀ i : Nat, i < j → h' 177 i = h 152 i ∧ h' 178 i = h 153 i) → XJ none 0 kX7_image h' 91 [some (.ref 9), some (vi j)] [] Q) (n := 3) ?_ ?_ h2 hB (fun _ _ _ => rfl) (fun i hi => by omega)
    · intro h' hB hf hA2
      refine xj_iload_n (pc2 := 92) dX7_image_91 rfl rfl rfl ?_
      refine xj_iconst (pc2 := 93) dX7_image_92 rfl ?_
      refine xj_cmp_ge (pc2 := 96) (tgt := 126) dX7_image_93 rfl rfl (by omega) (by omega) (fun c_93 => ?_) (fun c_93 => by exfalso; omega)
      refine xj_iconst (pc2 := 127) dX7_image_126 rfl ?_
      refine xj_istore1 (pc2 := 128) dX7_image_127 rfl rfl (by decide) rfl ?_
      exact stage3 h' hpos hB (fun i hi => by rw [hf 174 _ (by decide), hf 175 _ (by decide), hf 176 _ (by decide)]; exact hA1 i hi) hA2
    · intro j hj ih h' hB hf hA2
      have l1 : h' 152 (j : Int) = h 152 j := hB.1 152 _ (by decide) (Or.inl (by decide))
      have l2 : h' 153 (j : Int) = h 153 j := hB.1 153 _ (by decide) (Or.inl (by decide))
      refine xj_iload_n (pc2 := 92) dX7_image_91 rfl rfl rfl ?_
      refine xj_iconst (pc2 := 93) dX7_image_92 rfl ?_
      refine xj_cmp_ge (pc2 := 96) (tgt := 126) dX7_image_93 rfl rfl (by omega) (by omega) (fun c_93 => by exfalso; omega) (fun c_93 => ?_)
      refine xj_aload_n (pc2 := 97) dX7_image_96 rfl rfl rfl ?_
      refine xj_getRn (pc2 := 100) (c2 := 177) fok_X7_62 dX7_image_97 rfl rfl rfl rfl rfl ?_
      refine xj_iload_n (pc2 := 101) dX7_image_100 rfl rfl rfl ?_
      refine xj_aload_n (pc2 := 102) dX7_image_101 rfl rfl rfl ?_
      refine xj_getRn (pc2 := 105) (c2 := 152) fok_X7_22 dX7_image_102 rfl rfl rfl rfl rfl ?_
      refine xj_iload_n (pc2 := 106) dX7_image_105 rfl rfl rfl ?_
      refine xj_iald (pc2 := 107) dX7_image_106 rfl rfl (by omega) (by omega) l1 ?_
      refine xj_iast (pc2 := 108) dX7_image_107 rfl rfl (by omega) (by omega) ?_
      refine xj_aload_n (pc2 := 109) dX7_image_108 rfl rfl rfl ?_
      refine xj_getRn (pc2 := 112) (c2 := 178) fok_X7_65 dX7_image_109 rfl rfl rfl rfl rfl ?_
      refine xj_iload_n (pc2 := 113) dX7_image_112 rfl rfl rfl ?_
      refine xj_aload_n (pc2 := 114) dX7_image_113 rfl rfl rfl ?_
      refine xj_getRn (pc2 := 117) (c2 := 153) fok_X7_25 dX7_image_114 rfl rfl rfl rfl rfl ?_
      refine xj_iload_n (pc2 := 118) dX7_image_117 rfl rfl rfl ?_
      refine xj_iald (pc2 := 119) dX7_image_118 rfl rfl (by omega) (by omega) ((hset_nc (by decide)).trans l2) ?_
      refine xj_iast (pc2 := 120) dX7_image_119 rfl rfl (by omega) (by omega) ?_
      refine xj_iinc1 (pc2 := 123) dX7_image_120 rfl (by decide) rfl ?_
      refine xj_goto (tgt := 91) dX7_image_123 rfl ?_
      refine ih _ (IB_set (IB_set hB (by decide)) (by decide)) (fun c k q => by rw [hset_nc (by omega), hset_nc (by omega)]; exact hf c k q) (fun i hi => ?_)
      by_cases e : i = j
      · subst e; simp [hset]
      · have hp : ¬ (i : Int) = (j : Int) := by omega
        simp [hset, hp]
        exact hA2 i (by omega)
  have stage1 : ∀ h2 : Hp, 0 < S 6 0 → IB h tr (S 6 2) (S 6 3) h2 → XJ none 0 kX7_image h2 41 [some (.ref 9), some (vi 0)] [] Q := by
    intro h2 hpos hB
    refine down (P := fun j => ∀ h' : Hp, IB h tr (S 6 2) (S 6 3) h' → (∀ i : Nat, i < j → h' 174 i = h 149 i ∧ h' 175 i = h 150 i ∧ h' 176 i = h 151 i) → XJ none 0 kX7_image h' 41 [some (.ref 9), some (vi j)] [] Q) (n := 6) ?_ ?_ h2 hB (fun i hi => by omega)
    · intro h' hB hA1
      refine xj_iload_n (pc2 := 42) dX7_image_41 rfl rfl rfl ?_
      refine xj_bipush (pc2 := 44) dX7_image_42 rfl (by decide) ?_
      refine xj_cmp_ge (pc2 := 47) (tgt := 89) dX7_image_44 rfl rfl (by omega) (by omega) (fun c_44 => ?_) (fun c_44 => by exfalso; omega)
      refine xj_iconst (pc2 := 90) dX7_image_89 rfl ?_
      refine xj_istore1 (pc2 := 91) dX7_image_90 rfl rfl (by decide) rfl ?_
      exact stage2 h' hpos hB hA1
    · intro j hj ih h' hB hA1
      have l1 : h' 149 (j : Int) = h 149 j := hB.1 149 _ (by decide) (Or.inl (by decide))
      have l2 : h' 150 (j : Int) = h 150 j := hB.1 150 _ (by decide) (Or.inl (by decide))
      have l3 : h' 151 (j : Int) = h 151 j := hB.1 151 _ (by decide) (Or.inl (by decide))
      refine xj_iload_n (pc2 := 42) dX7_image_41 rfl rfl rfl ?_
      refine xj_bipush (pc2 := 44) dX7_image_42 rfl (by decide) ?_
      refine xj_cmp_ge (pc2 := 47) (tgt := 89) dX7_image_44 rfl rfl (by omega) (by omega) (fun c_44 => by exfalso; omega) (fun c_44 => ?_)
      refine xj_aload_n (pc2 := 48) dX7_image_47 rfl rfl rfl ?_
      refine xj_getRn (pc2 := 51) (c2 := 174) fok_X7_53 dX7_image_48 rfl rfl rfl rfl rfl ?_
      refine xj_iload_n (pc2 := 52) dX7_image_51 rfl rfl rfl ?_
      refine xj_aload_n (pc2 := 53) dX7_image_52 rfl rfl rfl ?_
      refine xj_getRn (pc2 := 56) (c2 := 149) fok_X7_13 dX7_image_53 rfl rfl rfl rfl rfl ?_
      refine xj_iload_n (pc2 := 57) dX7_image_56 rfl rfl rfl ?_
      refine xj_iald (pc2 := 58) dX7_image_57 rfl rfl (by omega) (by omega) l1 ?_
      refine xj_iast (pc2 := 59) dX7_image_58 rfl rfl (by omega) (by omega) ?_
      refine xj_aload_n (pc2 := 60) dX7_image_59 rfl rfl rfl ?_
      refine xj_getRn (pc2 := 63) (c2 := 175) fok_X7_56 dX7_image_60 rfl rfl rfl rfl rfl ?_
      refine xj_iload_n (pc2 := 64) dX7_image_63 rfl rfl rfl ?_
      refine xj_aload_n (pc2 := 65) dX7_image_64 rfl rfl rfl ?_
      refine xj_getRn (pc2 := 68) (c2 := 150) fok_X7_16 dX7_image_65 rfl rfl rfl rfl rfl ?_
      refine xj_iload_n (pc2 := 69) dX7_image_68 rfl rfl rfl ?_
      refine xj_iald (pc2 := 70) dX7_image_69 rfl rfl (by omega) (by omega) ((hset_nc (by decide)).trans l2) ?_
      refine xj_iast (pc2 := 71) dX7_image_70 rfl rfl (by omega) (by omega) ?_
      refine xj_aload_n (pc2 := 72) dX7_image_71 rfl rfl rfl ?_
      refine xj_getRn (pc2 := 75) (c2 := 176) fok_X7_59 dX7_image_72 rfl rfl rfl rfl rfl ?_
      refine xj_iload_n (pc2 := 76) dX7_image_75 rfl rfl rfl ?_
      refine xj_aload_n (pc2 := 77) dX7_image_76 rfl rfl rfl ?_
      refine xj_getRn (pc2 := 80) (c2 := 151) fok_X7_19 dX7_image_77 rfl rfl rfl rfl rfl ?_
      refine xj_iload_n (pc2 := 81) dX7_image_80 rfl rfl rfl ?_
      refine xj_iald (pc2 := 82) dX7_image_81 rfl rfl (by omega) (by omega) ((hset_nc (by decide)).trans ((hset_nc (by decide)).trans l3)) ?_
      refine xj_iast (pc2 := 83) dX7_image_82 rfl rfl (by omega) (by omega) ?_
      refine xj_iinc1 (pc2 := 86) dX7_image_83 rfl (by decide) rfl ?_
      refine xj_goto (tgt := 41) dX7_image_86 rfl ?_
      refine ih _ (IB_set (IB_set (IB_set hB (by decide)) (by decide)) (by decide)) (fun i hi => ?_)
      by_cases e : i = j
      · subst e; simp [hset]
      · have hp : ¬ (i : Int) = (j : Int) := by omega
        simp [hset, hp]
        exact hA1 i (by omega)
  refine cj_of (lo := [some (.ref 9), none]) mok_X7_image (fun _ => rfl) (fun _ => Nat.le_of_ble_eq_true rfl) ?_
  refine xj_aload_n (pc2 := 1) dX7_image_0 rfl rfl rfl ?_
  refine xj_getI (pc2 := 4) (kz := 1) fok_X7_113 dX7_image_1 rfl rfl rfl (by decide) rfl (by first | assumption | rfl) ?_
  refine xj_if_ne (pc2 := 7) (tgt := 10) dX7_image_4 rfl rfl (by omega) (fun c_4 => ?_) (fun c_4 => ?_)
  · -- 10
    refine xj_aload_n (pc2 := 11) dX7_image_10 rfl rfl rfl ?_
    refine xj_iconst (pc2 := 12) dX7_image_11 rfl ?_
    refine xj_putZ (pc2 := 15) (kz := 25) fok_X7_270 dX7_image_12 rfl rfl rfl rfl rfl (by omega) ?_
    refine xj_aload_n (pc2 := 16) dX7_image_15 rfl rfl rfl ?_
    refine xj_aload_n (pc2 := 17) dX7_image_16 rfl rfl rfl ?_
    refine xj_getI (pc2 := 20) (kz := 0) fok_X7_122 dX7_image_17 rfl rfl rfl (by decide) rfl ((hset_nk (by decide)).trans hsh) ?_
    refine xj_putI (pc2 := 23) (kz := 26) fok_X7_273 dX7_image_20 rfl rfl rfl rfl rfl ?_
    refine xj_aload_n (pc2 := 24) dX7_image_23 rfl rfl rfl ?_
    refine xj_aload_n (pc2 := 25) dX7_image_24 rfl rfl rfl ?_
    refine xj_getI (pc2 := 28) (kz := 9) fok_X7_119 dX7_image_25 rfl rfl rfl (by decide) rfl ((hset_nk (by decide)).trans ((hset_nk (by decide)).trans hh)) ?_
    refine xj_putI (pc2 := 31) (kz := 27) fok_X7_276 dX7_image_28 rfl rfl rfl rfl rfl ?_
    refine xj_aload_n (pc2 := 32) dX7_image_31 rfl rfl rfl ?_
    refine xj_aload_n (pc2 := 33) dX7_image_32 rfl rfl rfl ?_
    refine xj_getI (pc2 := 36) (kz := 11) fok_X7_125 dX7_image_33 rfl rfl rfl (by decide) rfl ((hset_nk (by decide)).trans ((hset_nk (by decide)).trans ((hset_nk (by decide)).trans hs))) ?_
    refine xj_putI (pc2 := 39) (kz := 28) fok_X7_279 dX7_image_36 rfl rfl rfl rfl rfl ?_
    refine xj_iconst (pc2 := 40) dX7_image_39 rfl ?_
    refine xj_istore1 (pc2 := 41) dX7_image_40 rfl rfl (by decide) rfl ?_
    exact stage1 _ (by omega) ⟨fun c k q1 q2 => by
      unfold hset
      rw [if_neg (by omega), if_neg (by omega), if_neg (by omega), if_neg (by omega)], by simp [hset], by simp [hset], by simp [hset], by simp [hset]⟩
  · -- 7
    refine xj_bipush (pc2 := 9) dX7_image_7 rfl (by decide) ?_
    refine xj_iret dX7_image_9 rfl ?_
    exact h0 (by omega)
def RB (h : Hp) (H n : Int) (h' : Hp) : Prop := (∀ c k, ¬ ((149 ≤ c ∧ c ≤ 153) ∨ (157 ≤ c ∧ c ≤ 159)) → (c ≠ 9 ∨ (k ≠ 9 ∧ k ≠ 11)) → h' c k = h c k) ∧ (h' 9 9 = H ∧ h' 9 11 = n)
theorem RB_set {h h' : Hp} {H n : Int} (b : RB h H n h') {c : Nat} {k v : Int} (hc : (149 ≤ c ∧ c ≤ 153) ∨ (157 ≤ c ∧ c ≤ 159)) : RB h H n (hset h' c k v) := by
  obtain ⟨b1, b2, b3⟩ := b
  refine ⟨fun c' k' q1 q2 => (hset_nc (by omega)).trans (b1 c' k' q1 q2), ?_, ?_⟩
  · rw [hset_nc (by omega)]; exact b2
  · rw [hset_nc (by omega)]; exact b3
theorem c_X7_restore {S I : Sh} {len : Int} {pg : Int → Int} {im tr td : Int} {h : Hp} {Q : Int → Hp → Prop} (hK : KM S I len pg im tr td h) (hW : WF S) (hI : im = 1 → WF I) (him : im = 0 ∨ im = 1) (htr : 0 ≤ tr ∧ tr ≤ 1000000) (h1 : im = 1 → ∀ h', KM I I len pg im tr td h' → FrM h h' → Q (I 6 2) h') (h0 : ¬ im = 1 → Q (-103) h) : CJ 0 kX7_restore [.ref 9] h Q := by
  obtain ⟨hM, k2, ⟨k3, k4, k5⟩, k6, k7, k8, k9, k10⟩ := id hK
  obtain ⟨⟨hn, hw, hh, hs⟩, mG, mN, mE⟩ := id hM
  have hnn := wf_n hW
  rcases him with e | e
  · have hk := k10 e
    refine cj_of (lo := [some (.ref 9), none]) mok_X7_restore (fun _ => rfl) (fun _ => Nat.le_of_ble_eq_true rfl) ?_
    refine xj_aload_n (pc2 := 1) dX7_restore_0 rfl rfl rfl ?_
    refine xj_getI (pc2 := 4) (kz := 25) fok_X7_270 dX7_restore_1 rfl rfl rfl (by decide) rfl rfl ?_
    refine xj_if_eq (pc2 := 7) (tgt := 18) dX7_restore_4 rfl rfl (by omega) (fun c_4 => ?_) (fun c_4 => ?_)
    · -- 18
      refine xj_bipush (pc2 := 20) dX7_restore_18 rfl (by decide) ?_
      refine xj_iret dX7_restore_20 rfl ?_
      exact h0 (by omega)
    · -- 7
      refine xj_aload_n (pc2 := 8) dX7_restore_7 rfl rfl rfl ?_
      refine xj_getI (pc2 := 11) (kz := 26) fok_X7_273 dX7_restore_8 rfl rfl rfl (by decide) rfl rfl ?_
      refine xj_aload_n (pc2 := 12) dX7_restore_11 rfl rfl rfl ?_
      refine xj_getI (pc2 := 15) (kz := 0) fok_X7_122 dX7_restore_12 rfl rfl rfl (by decide) rfl rfl ?_
      refine xj_cmp_eq (pc2 := 18) (tgt := 21) dX7_restore_15 rfl rfl (by omega) (by omega) (fun c_15 => ?_) (fun c_15 => ?_)
      · -- 21
        exfalso; omega
      · -- 18
        refine xj_bipush (pc2 := 20) dX7_restore_18 rfl (by decide) ?_
        refine xj_iret dX7_restore_20 rfl ?_
        exact h0 (by omega)
  obtain ⟨⟨i1, i2⟩, i3, i4, i5, ⟨i6, i7⟩, i8, i9, i10⟩ := k2 e
  have hWI := hI e
  have hni := wf_n hWI
  have stage3 : ∀ h2 : Hp, RB h (I 6 2) (I 6 3) h2 → (∀ i : Nat, i < 6 → h2 149 i = h 174 i ∧ h2 150 i = h 175 i ∧ h2 151 i = h 176 i) → (∀ i : Nat, i < 3 → h2 152 i = h 177 i ∧ h2 153 i = h 178 i) → XJ none 0 kX7_restore h2 126 [some (.ref 9), some (vi 0)] [] Q := by
    intro h2 hB hA1 hA2
    refine down (P := fun j => ∀ h' : Hp, RB h (I 6 2) (I 6 3) h' → (∀ c k, c < 157 → h' c k = h2 c k) → (∀ i : Nat, i < j → h' 157 i = h 179 i ∧ h' 158 i = h 180 i ∧ h' 159 i = h 181 i) → XJ none 0 kX7_restore h' 126 [some (.ref 9), some (vi j)] [] Q) (n := 8) ?_ ?_ h2 hB (fun _ _ _ => rfl) (fun i hi => by omega)
    · intro h' hB hf hA3
      obtain ⟨b1, b2, b3⟩ := id hB
      have fin : KM I I len pg im tr td h' := by
        refine ⟨⟨⟨(b1 9 1 (by decide) (by decide)).trans (hn.trans i8.symm), (b1 9 2 (by decide) (by decide)).trans (hw.trans i9.symm), b2, b3⟩, fun g q0 q1 => ?_, fun w q0 q1 => ?_, fun i q0 q1 => ?_⟩, fun _ => ⟨⟨(b1 9 27 (by decide) (by decide)).trans i1, (b1 9 28 (by decide) (by decide)).trans i2⟩, fun g q0 q1 => ?_, fun w q0 q1 => ?_, fun i q0 q1 => ?_, ⟨(b1 9 25 (by decide) (by decide)).trans i6, (b1 9 26 (by decide) (by decide)).trans i7⟩, rfl, rfl, fun _ _ _ => rfl⟩, ⟨(b1 9 15 (by decide) (by decide)).trans k3, k4, fun i q0 q1 => by rw [b1 161 _ (by decide) (Or.inl (by decide))]; exact k5 i q0 q1⟩, (b1 9 0 (by decide) (by decide)).trans k6, (b1 9 10 (by decide) (by decide)).trans k7, by rw [b1 9 25 (by decide) (by decide), b1 9 26 (by decide) (by decide)]; exact ⟨k8, k9, k10⟩⟩
        · have hg := hA1 g.toNat (by omega)
          rw [show ((g.toNat : Nat) : Int) = g by omega] at hg
          rw [b1 148 _ (by decide) (Or.inl (by decide)), hf 149 _ (by decide), hf 150 _ (by decide), hf 151 _ (by decide), hg.1, hg.2.1, hg.2.2]
          exact ⟨((mG g q0 (by omega)).1).trans (i10 g q0 (by omega)).symm, i3 g q0 q1⟩
        · have hg := hA2 w.toNat (by omega)
          rw [show ((w.toNat : Nat) : Int) = w by omega] at hg
          rw [hf 152 _ (by decide), hf 153 _ (by decide), hg.1, hg.2]
          exact i4 w q0 q1
        · have hg := hA3 i.toNat (by omega)
          rw [show ((i.toNat : Nat) : Int) = i by omega] at hg
          rw [hg.1, hg.2.1, hg.2.2]
          exact i5 i q0 q1
        · rw [b1 174 _ (by decide) (Or.inl (by decide)), b1 175 _ (by decide) (Or.inl (by decide)), b1 176 _ (by decide) (Or.inl (by decide))]
          exact i3 g q0 q1
        · rw [b1 177 _ (by decide) (Or.inl (by decide)), b1 178 _ (by decide) (Or.inl (by decide))]
          exact i4 w q0 q1
        · rw [b1 179 _ (by decide) (Or.inl (by decide)), b1 180 _ (by decide) (Or.inl (by decide)), b1 181 _ (by decide) (Or.inl (by decide))]
          exact i5 i q0 q1
      have hfin := h1 e h' fin (fun c k q1 q2 => b1 c k (by omega) (Or.inl q2))
      refine xj_iload_n (pc2 := 127) dX7_restore_126 rfl rfl rfl ?_
      refine xj_bipush (pc2 := 129) dX7_restore_127 rfl (by decide) ?_
      refine xj_cmp_ge (pc2 := 132) (tgt := 174) dX7_restore_129 rfl rfl (by omega) (by omega) (fun c_129 => ?_) (fun c_129 => by exfalso; omega)
      refine xj_aload_n (pc2 := 175) dX7_restore_174 rfl rfl rfl ?_
      refine xj_getI (pc2 := 178) (kz := 9) fok_X7_119 dX7_restore_175 rfl rfl rfl (by decide) rfl (by first | assumption | rfl) ?_
      refine xj_iret dX7_restore_178 rfl ?_
      exact hfin
    · intro j hj ih h' hB hf hA3
      have l1 : h' 179 (j : Int) = h 179 j := hB.1 179 _ (by decide) (Or.inl (by decide))
      have l2 : h' 180 (j : Int) = h 180 j := hB.1 180 _ (by decide) (Or.inl (by decide))
      have l3 : h' 181 (j : Int) = h 181 j := hB.1 181 _ (by decide) (Or.inl (by decide))
      refine xj_iload_n (pc2 := 127) dX7_restore_126 rfl rfl rfl ?_
      refine xj_bipush (pc2 := 129) dX7_restore_127 rfl (by decide) ?_
      refine xj_cmp_ge (pc2 := 132) (tgt := 174) dX7_restore_129 rfl rfl (by omega) (by omega) (fun c_129 => by exfalso; omega) (fun c_129 => ?_)
      refine xj_aload_n (pc2 := 133) dX7_restore_132 rfl rfl rfl ?_
      refine xj_getRn (pc2 := 136) (c2 := 157) fok_X7_28 dX7_restore_133 rfl rfl rfl rfl rfl ?_
      refine xj_iload_n (pc2 := 137) dX7_restore_136 rfl rfl rfl ?_
      refine xj_aload_n (pc2 := 138) dX7_restore_137 rfl rfl rfl ?_
      refine xj_getRn (pc2 := 141) (c2 := 179) fok_X7_68 dX7_restore_138 rfl rfl rfl rfl rfl ?_
      refine xj_iload_n (pc2 := 142) dX7_restore_141 rfl rfl rfl ?_
      refine xj_iald (pc2 := 143) dX7_restore_142 rfl rfl (by omega) (by omega) l1 ?_
      refine xj_iast (pc2 := 144) dX7_restore_143 rfl rfl (by omega) (by omega) ?_
      refine xj_aload_n (pc2 := 145) dX7_restore_144 rfl rfl rfl ?_
      refine xj_getRn (pc2 := 148) (c2 := 158) fok_X7_31 dX7_restore_145 rfl rfl rfl rfl rfl ?_
      refine xj_iload_n (pc2 := 149) dX7_restore_148 rfl rfl rfl ?_
      refine xj_aload_n (pc2 := 150) dX7_restore_149 rfl rfl rfl ?_
      refine xj_getRn (pc2 := 153) (c2 := 180) fok_X7_71 dX7_restore_150 rfl rfl rfl rfl rfl ?_
      refine xj_iload_n (pc2 := 154) dX7_restore_153 rfl rfl rfl ?_
      refine xj_iald (pc2 := 155) dX7_restore_154 rfl rfl (by omega) (by omega) ((hset_nc (by decide)).trans l2) ?_
      refine xj_iast (pc2 := 156) dX7_restore_155 rfl rfl (by omega) (by omega) ?_
      refine xj_aload_n (pc2 := 157) dX7_restore_156 rfl rfl rfl ?_
      refine xj_getRn (pc2 := 160) (c2 := 159) fok_X7_34 dX7_restore_157 rfl rfl rfl rfl rfl ?_
      refine xj_iload_n (pc2 := 161) dX7_restore_160 rfl rfl rfl ?_
      refine xj_aload_n (pc2 := 162) dX7_restore_161 rfl rfl rfl ?_
      refine xj_getRn (pc2 := 165) (c2 := 181) fok_X7_74 dX7_restore_162 rfl rfl rfl rfl rfl ?_
      refine xj_iload_n (pc2 := 166) dX7_restore_165 rfl rfl rfl ?_
      refine xj_iald (pc2 := 167) dX7_restore_166 rfl rfl (by omega) (by omega) ((hset_nc (by decide)).trans ((hset_nc (by decide)).trans l3)) ?_
      refine xj_iast (pc2 := 168) dX7_restore_167 rfl rfl (by omega) (by omega) ?_
      refine xj_iinc1 (pc2 := 171) dX7_restore_168 rfl (by decide) rfl ?_
      refine xj_goto (tgt := 126) dX7_restore_171 rfl ?_
      refine ih _ (RB_set (RB_set (RB_set hB (by decide)) (by decide)) (by decide)) (fun c k q => by rw [hset_nc (by omega), hset_nc (by omega), hset_nc (by omega)]; exact hf c k q) (fun i hi => ?_)
      by_cases e : i = j
      · subst e; simp [hset]
      · have hp : ¬ (i : Int) = (j : Int) := by omega
        simp [hset, hp]
        exact hA3 i (by omega)
  have stage2 : ∀ h2 : Hp, RB h (I 6 2) (I 6 3) h2 → (∀ i : Nat, i < 6 → h2 149 i = h 174 i ∧ h2 150 i = h 175 i ∧ h2 151 i = h 176 i) → XJ none 0 kX7_restore h2 89 [some (.ref 9), some (vi 0)] [] Q := by
    intro h2 hB hA1
    refine down (P := fun j => ∀ h' : Hp, RB h (I 6 2) (I 6 3) h' → (∀ c k, c < 152 → h' c k = h2 c k) → (∀ i : Nat, i < j → h' 152 i = h 177 i ∧ h' 153 i = h 178 i) → XJ none 0 kX7_restore h' 89 [some (.ref 9), some (vi j)] [] Q) (n := 3) ?_ ?_ h2 hB (fun _ _ _ => rfl) (fun i hi => by omega)
    · intro h' hB hf hA2
      refine xj_iload_n (pc2 := 90) dX7_restore_89 rfl rfl rfl ?_
      refine xj_iconst (pc2 := 91) dX7_restore_90 rfl ?_
      refine xj_cmp_ge (pc2 := 94) (tgt := 124) dX7_restore_91 rfl rfl (by omega) (by omega) (fun c_91 => ?_) (fun c_91 => by exfalso; omega)
      refine xj_iconst (pc2 := 125) dX7_restore_124 rfl ?_
      refine xj_istore1 (pc2 := 126) dX7_restore_125 rfl rfl (by decide) rfl ?_
      exact stage3 h' hB (fun i hi => by rw [hf 149 _ (by decide), hf 150 _ (by decide), hf 151 _ (by decide)]; exact hA1 i hi) hA2
    · intro j hj ih h' hB hf hA2
      have l1 : h' 177 (j : Int) = h 177 j := hB.1 177 _ (by decide) (Or.inl (by decide))
      have l2 : h' 178 (j : Int) = h 178 j := hB.1 178 _ (by decide) (Or.inl (by decide))
      refine xj_iload_n (pc2 := 90) dX7_restore_89 rfl rfl rfl ?_
      refine xj_iconst (pc2 := 91) dX7_restore_90 rfl ?_
      refine xj_cmp_ge (pc2 := 94) (tgt := 124) dX7_restore_91 rfl rfl (by omega) (by omega) (fun c_91 => by exfalso; omega) (fun c_91 => ?_)
      refine xj_aload_n (pc2 := 95) dX7_restore_94 rfl rfl rfl ?_
      refine xj_getRn (pc2 := 98) (c2 := 152) fok_X7_22 dX7_restore_95 rfl rfl rfl rfl rfl ?_
      refine xj_iload_n (pc2 := 99) dX7_restore_98 rfl rfl rfl ?_
      refine xj_aload_n (pc2 := 100) dX7_restore_99 rfl rfl rfl ?_
      refine xj_getRn (pc2 := 103) (c2 := 177) fok_X7_62 dX7_restore_100 rfl rfl rfl rfl rfl ?_
      refine xj_iload_n (pc2 := 104) dX7_restore_103 rfl rfl rfl ?_
      refine xj_iald (pc2 := 105) dX7_restore_104 rfl rfl (by omega) (by omega) l1 ?_
      refine xj_iast (pc2 := 106) dX7_restore_105 rfl rfl (by omega) (by omega) ?_
      refine xj_aload_n (pc2 := 107) dX7_restore_106 rfl rfl rfl ?_
      refine xj_getRn (pc2 := 110) (c2 := 153) fok_X7_25 dX7_restore_107 rfl rfl rfl rfl rfl ?_
      refine xj_iload_n (pc2 := 111) dX7_restore_110 rfl rfl rfl ?_
      refine xj_aload_n (pc2 := 112) dX7_restore_111 rfl rfl rfl ?_
      refine xj_getRn (pc2 := 115) (c2 := 178) fok_X7_65 dX7_restore_112 rfl rfl rfl rfl rfl ?_
      refine xj_iload_n (pc2 := 116) dX7_restore_115 rfl rfl rfl ?_
      refine xj_iald (pc2 := 117) dX7_restore_116 rfl rfl (by omega) (by omega) ((hset_nc (by decide)).trans l2) ?_
      refine xj_iast (pc2 := 118) dX7_restore_117 rfl rfl (by omega) (by omega) ?_
      refine xj_iinc1 (pc2 := 121) dX7_restore_118 rfl (by decide) rfl ?_
      refine xj_goto (tgt := 89) dX7_restore_121 rfl ?_
      refine ih _ (RB_set (RB_set hB (by decide)) (by decide)) (fun c k q => by rw [hset_nc (by omega), hset_nc (by omega)]; exact hf c k q) (fun i hi => ?_)
      by_cases e : i = j
      · subst e; simp [hset]
      · have hp : ¬ (i : Int) = (j : Int) := by omega
        simp [hset, hp]
        exact hA2 i (by omega)
  have stage1 : ∀ h2 : Hp, RB h (I 6 2) (I 6 3) h2 → XJ none 0 kX7_restore h2 39 [some (.ref 9), some (vi 0)] [] Q := by
    intro h2 hB
    refine down (P := fun j => ∀ h' : Hp, RB h (I 6 2) (I 6 3) h' → (∀ i : Nat, i < j → h' 149 i = h 174 i ∧ h' 150 i = h 175 i ∧ h' 151 i = h 176 i) → XJ none 0 kX7_restore h' 39 [some (.ref 9), some (vi j)] [] Q) (n := 6) ?_ ?_ h2 hB (fun i hi => by omega)
    · intro h' hB hA1
      refine xj_iload_n (pc2 := 40) dX7_restore_39 rfl rfl rfl ?_
      refine xj_bipush (pc2 := 42) dX7_restore_40 rfl (by decide) ?_
      refine xj_cmp_ge (pc2 := 45) (tgt := 87) dX7_restore_42 rfl rfl (by omega) (by omega) (fun c_42 => ?_) (fun c_42 => by exfalso; omega)
      refine xj_iconst (pc2 := 88) dX7_restore_87 rfl ?_
      refine xj_istore1 (pc2 := 89) dX7_restore_88 rfl rfl (by decide) rfl ?_
      exact stage2 h' hB hA1
    · intro j hj ih h' hB hA1
      have l1 : h' 174 (j : Int) = h 174 j := hB.1 174 _ (by decide) (Or.inl (by decide))
      have l2 : h' 175 (j : Int) = h 175 j := hB.1 175 _ (by decide) (Or.inl (by decide))
      have l3 : h' 176 (j : Int) = h 176 j := hB.1 176 _ (by decide) (Or.inl (by decide))
      refine xj_iload_n (pc2 := 40) dX7_restore_39 rfl rfl rfl ?_
      refine xj_bipush (pc2 := 42) dX7_restore_40 rfl (by decide) ?_
      refine xj_cmp_ge (pc2 := 45) (tgt := 87) dX7_restore_42 rfl rfl (by omega) (by omega) (fun c_42 => by exfalso; omega) (fun c_42 => ?_)
      refine xj_aload_n (pc2 := 46) dX7_restore_45 rfl rfl rfl ?_
      refine xj_getRn (pc2 := 49) (c2 := 149) fok_X7_13 dX7_restore_46 rfl rfl rfl rfl rfl ?_
      refine xj_iload_n (pc2 := 50) dX7_restore_49 rfl rfl rfl ?_
      refine xj_aload_n (pc2 := 51) dX7_restore_50 rfl rfl rfl ?_
      refine xj_getRn (pc2 := 54) (c2 := 174) fok_X7_53 dX7_restore_51 rfl rfl rfl rfl rfl ?_
      refine xj_iload_n (pc2 := 55) dX7_restore_54 rfl rfl rfl ?_
      refine xj_iald (pc2 := 56) dX7_restore_55 rfl rfl (by omega) (by omega) l1 ?_
      refine xj_iast (pc2 := 57) dX7_restore_56 rfl rfl (by omega) (by omega) ?_
      refine xj_aload_n (pc2 := 58) dX7_restore_57 rfl rfl rfl ?_
      refine xj_getRn (pc2 := 61) (c2 := 150) fok_X7_16 dX7_restore_58 rfl rfl rfl rfl rfl ?_
      refine xj_iload_n (pc2 := 62) dX7_restore_61 rfl rfl rfl ?_
      refine xj_aload_n (pc2 := 63) dX7_restore_62 rfl rfl rfl ?_
      refine xj_getRn (pc2 := 66) (c2 := 175) fok_X7_56 dX7_restore_63 rfl rfl rfl rfl rfl ?_
      refine xj_iload_n (pc2 := 67) dX7_restore_66 rfl rfl rfl ?_
      refine xj_iald (pc2 := 68) dX7_restore_67 rfl rfl (by omega) (by omega) ((hset_nc (by decide)).trans l2) ?_
      refine xj_iast (pc2 := 69) dX7_restore_68 rfl rfl (by omega) (by omega) ?_
      refine xj_aload_n (pc2 := 70) dX7_restore_69 rfl rfl rfl ?_
      refine xj_getRn (pc2 := 73) (c2 := 151) fok_X7_19 dX7_restore_70 rfl rfl rfl rfl rfl ?_
      refine xj_iload_n (pc2 := 74) dX7_restore_73 rfl rfl rfl ?_
      refine xj_aload_n (pc2 := 75) dX7_restore_74 rfl rfl rfl ?_
      refine xj_getRn (pc2 := 78) (c2 := 176) fok_X7_59 dX7_restore_75 rfl rfl rfl rfl rfl ?_
      refine xj_iload_n (pc2 := 79) dX7_restore_78 rfl rfl rfl ?_
      refine xj_iald (pc2 := 80) dX7_restore_79 rfl rfl (by omega) (by omega) ((hset_nc (by decide)).trans ((hset_nc (by decide)).trans l3)) ?_
      refine xj_iast (pc2 := 81) dX7_restore_80 rfl rfl (by omega) (by omega) ?_
      refine xj_iinc1 (pc2 := 84) dX7_restore_81 rfl (by decide) rfl ?_
      refine xj_goto (tgt := 39) dX7_restore_84 rfl ?_
      refine ih _ (RB_set (RB_set (RB_set hB (by decide)) (by decide)) (by decide)) (fun i hi => ?_)
      by_cases e : i = j
      · subst e; simp [hset]
      · have hp : ¬ (i : Int) = (j : Int) := by omega
        simp [hset, hp]
        exact hA1 i (by omega)
  refine cj_of (lo := [some (.ref 9), none]) mok_X7_restore (fun _ => rfl) (fun _ => Nat.le_of_ble_eq_true rfl) ?_
  refine xj_aload_n (pc2 := 1) dX7_restore_0 rfl rfl rfl ?_
  refine xj_getI (pc2 := 4) (kz := 25) fok_X7_270 dX7_restore_1 rfl rfl rfl (by decide) rfl i6 ?_
  refine xj_if_eq (pc2 := 7) (tgt := 18) dX7_restore_4 rfl rfl (by omega) (fun c_4 => by exfalso; omega) (fun c_4 => ?_)
  refine xj_aload_n (pc2 := 8) dX7_restore_7 rfl rfl rfl ?_
  refine xj_getI (pc2 := 11) (kz := 26) fok_X7_273 dX7_restore_8 rfl rfl rfl (by decide) rfl i7 ?_
  refine xj_aload_n (pc2 := 12) dX7_restore_11 rfl rfl rfl ?_
  refine xj_getI (pc2 := 15) (kz := 0) fok_X7_122 dX7_restore_12 rfl rfl rfl (by decide) rfl k6 ?_
  refine xj_cmp_eq (pc2 := 18) (tgt := 21) dX7_restore_15 rfl rfl (by omega) (by omega) (fun c_15 => ?_) (fun c_15 => by exfalso; omega)
  refine xj_aload_n (pc2 := 22) dX7_restore_21 rfl rfl rfl ?_
  refine xj_aload_n (pc2 := 23) dX7_restore_22 rfl rfl rfl ?_
  refine xj_getI (pc2 := 26) (kz := 27) fok_X7_276 dX7_restore_23 rfl rfl rfl (by decide) rfl i1 ?_
  refine xj_putI (pc2 := 29) (kz := 9) fok_X7_119 dX7_restore_26 rfl rfl rfl rfl rfl ?_
  refine xj_aload_n (pc2 := 30) dX7_restore_29 rfl rfl rfl ?_
  refine xj_aload_n (pc2 := 31) dX7_restore_30 rfl rfl rfl ?_
  refine xj_getI (pc2 := 34) (kz := 28) fok_X7_279 dX7_restore_31 rfl rfl rfl (by decide) rfl ((hset_nk (by decide)).trans i2) ?_
  refine xj_putI (pc2 := 37) (kz := 11) fok_X7_125 dX7_restore_34 rfl rfl rfl rfl rfl ?_
  refine xj_iconst (pc2 := 38) dX7_restore_37 rfl ?_
  refine xj_istore1 (pc2 := 39) dX7_restore_38 rfl rfl (by decide) rfl ?_
  exact stage1 _ ⟨fun c k q1 q2 => by
    unfold hset
    rw [if_neg (by omega), if_neg (by omega)], by simp [hset], by simp [hset]⟩
