/-! the model: count and digest -/
def pW (S : Sh) (x : Int) : Nat → Bool := if x = 6 then wiP S else doP S (5 - x)
theorem c_X7_ofWearers {S : Sh} {x : Int} {h : Hp} {Q : Int → Hp → Prop} (hM : RM S h) (hW : WF S) (hx : 4 ≤ x ∧ x ≤ 6) (hq : Q (cntz (pW S x) (nW S)) h) : CJ 5 kX7_ofWearers [.ref 9, vi x] h Q := by
  obtain ⟨⟨hn, hw, hh, hs⟩, mG, mN, mE⟩ := id hM
  have hnn := wf_n hW
  have hnw := nW_eq hW
  refine cj_of (lo := [some (.ref 9), some (vi x), none, none, none]) mok_X7_ofWearers (fun _ => rfl) (fun _ => Nat.le_of_ble_eq_true rfl) ?_
  refine xj_iconst (pc2 := 1) dX7_ofWearers_0 rfl ?_
  refine xj_istore2 (pc2 := 2) dX7_ofWearers_1 rfl rfl (by decide) rfl ?_
  refine xj_iconst (pc2 := 3) dX7_ofWearers_2 rfl ?_
  refine xj_istore3 (pc2 := 4) dX7_ofWearers_3 rfl rfl (by decide) rfl ?_
  refine down (P := fun j => XJ none 5 kX7_ofWearers h 4 [some (.ref 9), some (vi x), some (vi (cntz (pW S x) j)), some (vi j), none] [] Q) (n := nW S) ?_ ?_
  · refine xj_iload_n (pc2 := 5) dX7_ofWearers_4 rfl rfl rfl ?_
    refine xj_aload_n (pc2 := 6) dX7_ofWearers_5 rfl rfl rfl ?_
    refine xj_getI (pc2 := 9) (kz := 2) fok_X7_116 dX7_ofWearers_6 rfl rfl rfl (by decide) rfl (by first | assumption | rfl) ?_
    refine xj_cmp_ge (pc2 := 12) (tgt := 71) dX7_ofWearers_9 rfl rfl (by omega) (by omega) (fun c_9 => ?_) (fun c_9 => by exfalso; omega)
    refine xj_iload_n (pc2 := 72) dX7_ofWearers_71 rfl rfl rfl ?_
    refine xj_iret dX7_ofWearers_72 rfl ?_
    exact hq
  · intro j hj ih
    have hmz : 0 ≤ moodN S j ∧ moodN S j ≤ 66 := moodZ_rg hW (by omega) (by decide)
    have hdz := doz_rg (m := moodN S j)
    have hcr := cntz_rg (q := pW S x) j
    have es : cntz (pW S x) (j + 1) = cntz (pW S x) j + (if pW S x j = true then 1 else 0) := rfl
    rw [es] at ih
    have e6 : x = 6 → pW S x = wiP S := fun q => if_pos q
    have e5 : ¬ x = 6 → pW S x = doP S (5 - x) := fun q => if_neg q
    refine xj_iload_n (pc2 := 5) dX7_ofWearers_4 rfl rfl rfl ?_
    refine xj_aload_n (pc2 := 6) dX7_ofWearers_5 rfl rfl rfl ?_
    refine xj_getI (pc2 := 9) (kz := 2) fok_X7_116 dX7_ofWearers_6 rfl rfl rfl (by decide) rfl (by first | assumption | rfl) ?_
    refine xj_cmp_ge (pc2 := 12) (tgt := 71) dX7_ofWearers_9 rfl rfl (by omega) (by omega) (fun c_9 => by exfalso; omega) (fun c_9 => ?_)
    refine xj_iload_n (pc2 := 13) dX7_ofWearers_12 rfl rfl rfl ?_
    refine xj_bipush (pc2 := 15) dX7_ofWearers_13 rfl (by decide) ?_
    refine xj_cmp_ne (pc2 := 18) (tgt := 31) dX7_ofWearers_15 rfl rfl (by omega) (by omega) (fun c_15 => ?_) (fun c_15 => ?_)
    · -- 31
      refine xj_aload_n (pc2 := 32) dX7_ofWearers_31 rfl rfl rfl ?_
      refine xj_iload_n (pc2 := 33) dX7_ofWearers_32 rfl rfl rfl ?_
      refine xj_V1I (pc2 := 36) (d2 := 4) mok_X7_moodNow ml_X7_170 ima_yX7_moodNow sel_yX7_moodNow rfl rfl dX7_ofWearers_33 rfl rfl (by decide) (by decide) (Nat.le_of_ble_eq_true rfl) (fun _ => rfl) ?_
      refine c_X7_moodNow hM hW (by omega) ?_
      refine xj_S1I (pc2 := 39) (d2 := 0) mok_X7_doesBy ml_X7_152 sta_yX7_doesBy dX7_ofWearers_36 rfl rfl (by decide) (by decide) (Nat.le_of_ble_eq_true rfl) (fun _ => rfl) ?_
      refine c_X7_doesBy (by omega) ?_
      refine xj_iconst (pc2 := 40) dX7_ofWearers_39 rfl ?_
      refine xj_iload_n (pc2 := 41) dX7_ofWearers_40 rfl rfl rfl ?_
      refine xj_isub (pc2 := 42) dX7_ofWearers_41 rfl ?_
      refine xj_cmp_ne (pc2 := 45) (tgt := 49) dX7_ofWearers_42 rfl rfl (by omega) (by omega) (fun c_42 => ?_) (fun c_42 => ?_)
      · -- 49
        refine xj_iconst (pc2 := 50) dX7_ofWearers_49 rfl ?_
        refine xj_istore4 (pc2 := 52) dX7_ofWearers_50 rfl (by decide) rfl ?_
        refine xj_iload_n (pc2 := 53) dX7_ofWearers_52 rfl rfl rfl ?_
        refine xj_iload (pc2 := 55) dX7_ofWearers_53 rfl rfl ?_
        refine xj_if_eq (pc2 := 58) (tgt := 62) dX7_ofWearers_55 rfl rfl (by omega) (fun c_55 => ?_) (fun c_55 => absurd c_55 (by decide))
        refine xj_iconst (pc2 := 63) dX7_ofWearers_62 rfl ?_
        refine xj_iadd (pc2 := 64) dX7_ofWearers_63 rfl ?_
        refine xj_istore2 (pc2 := 65) dX7_ofWearers_64 rfl rfl (by decide) rfl ?_
        refine xj_iinc3 (pc2 := 68) dX7_ofWearers_65 rfl (by decide) rfl ?_
        refine xj_goto (tgt := 4) dX7_ofWearers_68 rfl ?_
        first
        | (rw [if_pos (by rw [e6 (by omega)]; exact c_25)] at ih; exact xj_sub (by repeat (first | exact subL_nil | apply subL_none | apply subL_some rfl)) ih)
        | (rw [if_neg (by rw [e6 (by omega)]; exact c_25)] at ih; exact xj_sub (by repeat (first | exact subL_nil | apply subL_none | apply subL_some rfl)) ih)
        | (rw [if_pos (by rw [e5 (by omega)]; exact decide_eq_true (by omega))] at ih; exact xj_sub (by repeat (first | exact subL_nil | apply subL_none | apply subL_some rfl)) ih)
        | (rw [if_neg (by rw [e5 (by omega)]; unfold doP; rw [decide_eq_true_eq]; omega)] at ih; exact xj_sub (by repeat (first | exact subL_nil | apply subL_none | apply subL_some rfl)) ih)
      · -- 45
        refine xj_iconst (pc2 := 46) dX7_ofWearers_45 rfl ?_
        refine xj_goto (tgt := 50) dX7_ofWearers_46 rfl ?_
        refine xj_istore4 (pc2 := 52) dX7_ofWearers_50 rfl (by decide) rfl ?_
        refine xj_iload_n (pc2 := 53) dX7_ofWearers_52 rfl rfl rfl ?_
        refine xj_iload (pc2 := 55) dX7_ofWearers_53 rfl rfl ?_
        refine xj_if_eq (pc2 := 58) (tgt := 62) dX7_ofWearers_55 rfl rfl (by omega) (fun c_55 => absurd c_55 (by decide)) (fun c_55 => ?_)
        refine xj_iconst (pc2 := 59) dX7_ofWearers_58 rfl ?_
        refine xj_goto (tgt := 63) dX7_ofWearers_59 rfl ?_
        refine xj_iadd (pc2 := 64) dX7_ofWearers_63 rfl ?_
        refine xj_istore2 (pc2 := 65) dX7_ofWearers_64 rfl rfl (by decide) rfl ?_
        refine xj_iinc3 (pc2 := 68) dX7_ofWearers_65 rfl (by decide) rfl ?_
        refine xj_goto (tgt := 4) dX7_ofWearers_68 rfl ?_
        first
        | (rw [if_pos (by rw [e6 (by omega)]; exact c_25)] at ih; exact xj_sub (by repeat (first | exact subL_nil | apply subL_none | apply subL_some rfl)) ih)
        | (rw [if_neg (by rw [e6 (by omega)]; exact c_25)] at ih; exact xj_sub (by repeat (first | exact subL_nil | apply subL_none | apply subL_some rfl)) ih)
        | (rw [if_pos (by rw [e5 (by omega)]; exact decide_eq_true (by omega))] at ih; exact xj_sub (by repeat (first | exact subL_nil | apply subL_none | apply subL_some rfl)) ih)
        | (rw [if_neg (by rw [e5 (by omega)]; unfold doP; rw [decide_eq_true_eq]; omega)] at ih; exact xj_sub (by repeat (first | exact subL_nil | apply subL_none | apply subL_some rfl)) ih)
    · -- 18
      refine xj_aload_n (pc2 := 19) dX7_ofWearers_18 rfl rfl rfl ?_
      refine xj_iload_n (pc2 := 20) dX7_ofWearers_19 rfl rfl rfl ?_
      refine xj_aload_n (pc2 := 21) dX7_ofWearers_20 rfl rfl rfl ?_
      refine xj_iload_n (pc2 := 22) dX7_ofWearers_21 rfl rfl rfl ?_
      refine xj_V1I (pc2 := 25) (d2 := 4) mok_X7_moodNow ml_X7_170 ima_yX7_moodNow sel_yX7_moodNow rfl rfl dX7_ofWearers_22 rfl rfl (by decide) (by decide) (Nat.le_of_ble_eq_true rfl) (fun _ => rfl) ?_
      refine c_X7_moodNow hM hW (by omega) ?_
      refine xj_V2I (pc2 := 28) (d2 := 1) mok_X7_isWished ml_X7_176 ima_yX7_isWished sel_yX7_isWished rfl rfl dX7_ofWearers_25 rfl rfl (by decide) (by decide) (Nat.le_of_ble_eq_true rfl) (fun _ => rfl) ?_
      refine c_X7_isWished hM hW (by omega) (by omega) ?_ ?_
      · -- X7_isWished = 1
        intro c_25
        refine xj_goto (tgt := 50) dX7_ofWearers_28 rfl ?_
        refine xj_istore4 (pc2 := 52) dX7_ofWearers_50 rfl (by decide) rfl ?_
        refine xj_iload_n (pc2 := 53) dX7_ofWearers_52 rfl rfl rfl ?_
        refine xj_iload (pc2 := 55) dX7_ofWearers_53 rfl rfl ?_
        refine xj_if_eq (pc2 := 58) (tgt := 62) dX7_ofWearers_55 rfl rfl (by omega) (fun c_55 => absurd c_55 (by decide)) (fun c_55 => ?_)
        refine xj_iconst (pc2 := 59) dX7_ofWearers_58 rfl ?_
        refine xj_goto (tgt := 63) dX7_ofWearers_59 rfl ?_
        refine xj_iadd (pc2 := 64) dX7_ofWearers_63 rfl ?_
        refine xj_istore2 (pc2 := 65) dX7_ofWearers_64 rfl rfl (by decide) rfl ?_
        refine xj_iinc3 (pc2 := 68) dX7_ofWearers_65 rfl (by decide) rfl ?_
        refine xj_goto (tgt := 4) dX7_ofWearers_68 rfl ?_
        first
        | (rw [if_pos (by rw [e6 (by omega)]; exact c_25)] at ih; exact xj_sub (by repeat (first | exact subL_nil | apply subL_none | apply subL_some rfl)) ih)
        | (rw [if_neg (by rw [e6 (by omega)]; exact c_25)] at ih; exact xj_sub (by repeat (first | exact subL_nil | apply subL_none | apply subL_some rfl)) ih)
        | (rw [if_pos (by rw [e5 (by omega)]; exact decide_eq_true (by omega))] at ih; exact xj_sub (by repeat (first | exact subL_nil | apply subL_none | apply subL_some rfl)) ih)
        | (rw [if_neg (by rw [e5 (by omega)]; unfold doP; rw [decide_eq_true_eq]; omega)] at ih; exact xj_sub (by repeat (first | exact subL_nil | apply subL_none | apply subL_some rfl)) ih)
      · -- X7_isWished = 0
        intro c_25
        refine xj_goto (tgt := 50) dX7_ofWearers_28 rfl ?_
        refine xj_istore4 (pc2 := 52) dX7_ofWearers_50 rfl (by decide) rfl ?_
        refine xj_iload_n (pc2 := 53) dX7_ofWearers_52 rfl rfl rfl ?_
        refine xj_iload (pc2 := 55) dX7_ofWearers_53 rfl rfl ?_
        refine xj_if_eq (pc2 := 58) (tgt := 62) dX7_ofWearers_55 rfl rfl (by omega) (fun c_55 => ?_) (fun c_55 => absurd c_55 (by decide))
        refine xj_iconst (pc2 := 63) dX7_ofWearers_62 rfl ?_
        refine xj_iadd (pc2 := 64) dX7_ofWearers_63 rfl ?_
        refine xj_istore2 (pc2 := 65) dX7_ofWearers_64 rfl rfl (by decide) rfl ?_
        refine xj_iinc3 (pc2 := 68) dX7_ofWearers_65 rfl (by decide) rfl ?_
        refine xj_goto (tgt := 4) dX7_ofWearers_68 rfl ?_
        first
        | (rw [if_pos (by rw [e6 (by omega)]; exact c_25)] at ih; exact xj_sub (by repeat (first | exact subL_nil | apply subL_none | apply subL_some rfl)) ih)
        | (rw [if_neg (by rw [e6 (by omega)]; exact c_25)] at ih; exact xj_sub (by repeat (first | exact subL_nil | apply subL_none | apply subL_some rfl)) ih)
        | (rw [if_pos (by rw [e5 (by omega)]; exact decide_eq_true (by omega))] at ih; exact xj_sub (by repeat (first | exact subL_nil | apply subL_none | apply subL_some rfl)) ih)
        | (rw [if_neg (by rw [e5 (by omega)]; unfold doP; rw [decide_eq_true_eq]; omega)] at ih; exact xj_sub (by repeat (first | exact subL_nil | apply subL_none | apply subL_some rfl)) ih)
def fG (S : Sh) (b : Int) : Nat → Int := fun g => if b = 0 then pc (bsum (quarP S g) (nG S)) else tz S g 0
theorem c_X7_ofGloves {S : Sh} {b : Int} {h : Hp} {Q : Int → Hp → Prop} (hM : RM S h) (hW : WF S) (hx : 0 ≤ b ∧ b ≤ 1) (hq : Q (if b = 0 then ssum (fG S b) (nG S) / 2 else ssum (fG S b) (nG S)) h) : CJ 4 kX7_ofGloves [.ref 9, vi b] h Q := by
  obtain ⟨⟨hn, hw, hh, hs⟩, mG, mN, mE⟩ := id hM
  have hnn := wf_n hW
  have hng := nG_eq hW
  have hfr : ∀ j, j < nG S → 0 ≤ fG S b j ∧ fG S b j ≤ 10 := fun j hj => by
    have h1 := tz_rg hW (g := (j : Int)) (m := 0) (by omega) (by decide)
    have h2 := pc_rg (x := bsum (quarP S j) (nG S))
    unfold fG
    split <;> omega
  refine cj_of (lo := [some (.ref 9), some (vi b), none, none]) mok_X7_ofGloves (fun _ => rfl) (fun _ => Nat.le_of_ble_eq_true rfl) ?_
  refine xj_iconst (pc2 := 1) dX7_ofGloves_0 rfl ?_
  refine xj_istore2 (pc2 := 2) dX7_ofGloves_1 rfl rfl (by decide) rfl ?_
  refine xj_iconst (pc2 := 3) dX7_ofGloves_2 rfl ?_
  refine xj_istore3 (pc2 := 4) dX7_ofGloves_3 rfl rfl (by decide) rfl ?_
  refine down (P := fun j => XJ none 4 kX7_ofGloves h 4 [some (.ref 9), some (vi b), some (vi (ssum (fG S b) j)), some (vi j)] [] Q) (n := nG S) ?_ ?_
  · have hss := ssum_rg (f := fG S b) (a := 0) (b := 10) (by decide) (by decide) (nG S) hfr
    refine xj_iload_n (pc2 := 5) dX7_ofGloves_4 rfl rfl rfl ?_
    refine xj_aload_n (pc2 := 6) dX7_ofGloves_5 rfl rfl rfl ?_
    refine xj_getI (pc2 := 9) (kz := 1) fok_X7_113 dX7_ofGloves_6 rfl rfl rfl (by decide) rfl (by first | assumption | rfl) ?_
    refine xj_cmp_ge (pc2 := 12) (tgt := 42) dX7_ofGloves_9 rfl rfl (by omega) (by omega) (fun c_9 => ?_) (fun c_9 => by exfalso; omega)
    refine xj_iload_n (pc2 := 43) dX7_ofGloves_42 rfl rfl rfl ?_
    refine xj_if_eq (pc2 := 46) (tgt := 50) dX7_ofGloves_43 rfl rfl (by omega) (fun c_43 => ?_) (fun c_43 => ?_)
    · -- 50
      refine xj_iload_n (pc2 := 51) dX7_ofGloves_50 rfl rfl rfl ?_
      refine xj_iconst (pc2 := 52) dX7_ofGloves_51 rfl ?_
      refine xj_idiv (pc2 := 53) dX7_ofGloves_52 rfl (by omega) (by omega) ?_
      refine xj_iret dX7_ofGloves_53 rfl ?_
      first
      | (rw [if_pos c_43] at hq; exact hq)
      | (rw [if_neg c_43] at hq; exact hq)
    · -- 46
      refine xj_iload_n (pc2 := 47) dX7_ofGloves_46 rfl rfl rfl ?_
      refine xj_goto (tgt := 53) dX7_ofGloves_47 rfl ?_
      refine xj_iret dX7_ofGloves_53 rfl ?_
      first
      | (rw [if_pos c_43] at hq; exact hq)
      | (rw [if_neg c_43] at hq; exact hq)
  · intro j hj ih
    have hbs := bsum_le6 (p := quarP S j) (n := nG S) (by omega)
    have es : ssum (fG S b) (j + 1) = ssum (fG S b) j + (if b = 0 then pc (bsum (quarP S j) (nG S)) else tz S j 0) := rfl
    rw [es] at ih
    refine xj_iload_n (pc2 := 5) dX7_ofGloves_4 rfl rfl rfl ?_
    refine xj_aload_n (pc2 := 6) dX7_ofGloves_5 rfl rfl rfl ?_
    refine xj_getI (pc2 := 9) (kz := 1) fok_X7_113 dX7_ofGloves_6 rfl rfl rfl (by decide) rfl (by first | assumption | rfl) ?_
    refine xj_cmp_ge (pc2 := 12) (tgt := 42) dX7_ofGloves_9 rfl rfl (by omega) (by omega) (fun c_9 => by exfalso; omega) (fun c_9 => ?_)
    refine xj_iload_n (pc2 := 13) dX7_ofGloves_12 rfl rfl rfl ?_
    refine xj_iload_n (pc2 := 14) dX7_ofGloves_13 rfl rfl rfl ?_
    refine xj_if_eq (pc2 := 17) (tgt := 26) dX7_ofGloves_14 rfl rfl (by omega) (fun c_14 => ?_) (fun c_14 => ?_)
    · -- 26
      refine xj_aload_n (pc2 := 27) dX7_ofGloves_26 rfl rfl rfl ?_
      refine xj_iload_n (pc2 := 28) dX7_ofGloves_27 rfl rfl rfl ?_
      refine xj_V1I (pc2 := 31) (d2 := 3) mok_X7_quarrels ml_X7_155 ima_yX7_quarrels sel_yX7_quarrels rfl rfl dX7_ofGloves_28 rfl rfl (by decide) (by decide) (Nat.le_of_ble_eq_true rfl) (fun _ => rfl) ?_
      refine c_X7_quarrels hM hW (by omega) ?_
      refine xj_S1I (pc2 := 34) (d2 := 0) mok_X7_size ml_X7_194 sta_yX7_size dX7_ofGloves_31 rfl rfl (by decide) (by decide) (Nat.le_of_ble_eq_true rfl) (fun _ => rfl) ?_
      refine c_X7_size (by omega) ?_
      refine xj_iadd (pc2 := 35) dX7_ofGloves_34 rfl ?_
      refine xj_istore2 (pc2 := 36) dX7_ofGloves_35 rfl rfl (by decide) rfl ?_
      refine xj_iinc3 (pc2 := 39) dX7_ofGloves_36 rfl (by decide) rfl ?_
      refine xj_goto (tgt := 4) dX7_ofGloves_39 rfl ?_
      first
      | (rw [if_pos c_14] at ih; exact ih)
      | (rw [if_neg c_14] at ih; exact ih)
    · -- 17
      refine xj_aload_n (pc2 := 18) dX7_ofGloves_17 rfl rfl rfl ?_
      refine xj_iload_n (pc2 := 19) dX7_ofGloves_18 rfl rfl rfl ?_
      refine xj_iconst (pc2 := 20) dX7_ofGloves_19 rfl ?_
      refine xj_V2I (pc2 := 23) (d2 := 1) mok_X7_temperBehind ml_X7_136 ima_yX7_temperBehind sel_yX7_temperBehind rfl rfl dX7_ofGloves_20 rfl rfl (by decide) (by decide) (Nat.le_of_ble_eq_true rfl) (fun _ => rfl) ?_
      refine c_X7_temperBehind hM hW (by omega) (by omega) ?_
      refine xj_goto (tgt := 34) dX7_ofGloves_23 rfl ?_
      refine xj_iadd (pc2 := 35) dX7_ofGloves_34 rfl ?_
      refine xj_istore2 (pc2 := 36) dX7_ofGloves_35 rfl rfl (by decide) rfl ?_
      refine xj_iinc3 (pc2 := 39) dX7_ofGloves_36 rfl (by decide) rfl ?_
      refine xj_goto (tgt := 4) dX7_ofGloves_39 rfl ?_
      first
      | (rw [if_pos c_14] at ih; exact ih)
      | (rw [if_neg c_14] at ih; exact ih)
theorem c_X7_howMany {S I : Sh} {len x : Int} {pg : Int → Int} {im tr td : Int} {h : Hp} {Q : Int → Hp → Prop} (hK : KM S I len pg im tr td h) (hW : WF S) (hx : -2147483648 ≤ x ∧ x ≤ 2147483647) (hq : Q (countZ S len tr td x) h) : CJ 6 kX7_howMany [.ref 9, vi x] h Q := by
  obtain ⟨hM, k2, ⟨k3, k4, k5⟩, k6, k7, k8⟩ := id hK
  obtain ⟨⟨hn, hw, hh, hs⟩, mG, mN, mE⟩ := id hM
  have hnn := wf_n hW
  refine cj_of (lo := [some (.ref 9), some (vi x)]) mok_X7_howMany (fun _ => rfl) (fun _ => Nat.le_of_ble_eq_true rfl) ?_
  refine xj_iload_n (pc2 := 1) dX7_howMany_0 rfl rfl rfl ?_
  refine tsw_X7_howMany_1 (by omega) (fun c_1 => ?_) (fun c_1 => ?_) (fun c_1 => ?_) (fun c_1 => ?_) (fun c_1 => ?_) (fun c_1 => ?_) (fun c_1 => ?_) (fun c_1 => ?_) (fun c_1 => ?_) (fun c_1 => ?_) (fun c_1 => ?_) (fun c_1 => ?_) (fun c_1 => ?_) (fun c_1 => ?_)
  · -- 68
    refine xj_aload_n (pc2 := 69) dX7_howMany_68 rfl rfl rfl ?_
    refine xj_getI (pc2 := 72) (kz := 1) fok_X7_113 dX7_howMany_69 rfl rfl rfl (by decide) rfl (by first | assumption | rfl) ?_
    refine xj_iret dX7_howMany_72 rfl ?_
    first
    | (refine q_eq (y := countZ S len tr td x) ?_ hq; rw [c_1]; rfl)
    | (refine q_eq ?_ hq; unfold countZ; (repeat' split) <;> omega)
  · -- 73
    refine xj_aload_n (pc2 := 74) dX7_howMany_73 rfl rfl rfl ?_
    refine xj_getI (pc2 := 77) (kz := 2) fok_X7_116 dX7_howMany_74 rfl rfl rfl (by decide) rfl (by first | assumption | rfl) ?_
    refine xj_iret dX7_howMany_77 rfl ?_
    first
    | (refine q_eq (y := countZ S len tr td x) ?_ hq; rw [c_1]; rfl)
    | (refine q_eq ?_ hq; unfold countZ; (repeat' split) <;> omega)
  · -- 78
    refine xj_aload_n (pc2 := 79) dX7_howMany_78 rfl rfl rfl ?_
    refine xj_V0I (pc2 := 82) (d2 := 0) mok_X7_onHands ml_X7_264 ima_yX7_onHands sel_yX7_onHands rfl rfl dX7_howMany_79 rfl rfl (by decide) (by decide) (Nat.le_of_ble_eq_true rfl) (fun _ => rfl) ?_
    refine c_X7_onHands hM hW ?_
    refine xj_iret dX7_howMany_82 rfl ?_
    first
    | (refine q_eq (y := countZ S len tr td x) ?_ hq; rw [c_1]; rfl)
    | (refine q_eq ?_ hq; unfold countZ; (repeat' split) <;> omega)
  · -- 83
    refine xj_aload_n (pc2 := 84) dX7_howMany_83 rfl rfl rfl ?_
    refine xj_getI (pc2 := 87) (kz := 9) fok_X7_119 dX7_howMany_84 rfl rfl rfl (by decide) rfl (by first | assumption | rfl) ?_
    refine xj_iret dX7_howMany_87 rfl ?_
    first
    | (refine q_eq (y := countZ S len tr td x) ?_ hq; rw [c_1]; rfl)
    | (refine q_eq ?_ hq; unfold countZ; (repeat' split) <;> omega)
  · -- 88
    refine xj_aload_n (pc2 := 89) dX7_howMany_88 rfl rfl rfl ?_
    refine xj_iload_n (pc2 := 90) dX7_howMany_89 rfl rfl rfl ?_
    refine xj_V1I (pc2 := 93) (d2 := 5) mok_X7_ofWearers ml_X7_282 ima_yX7_ofWearers sel_yX7_ofWearers rfl rfl dX7_howMany_90 rfl rfl (by decide) (by decide) (Nat.le_of_ble_eq_true rfl) (fun _ => rfl) ?_
    refine c_X7_ofWearers hM hW (by omega) ?_
    refine xj_iret dX7_howMany_93 rfl ?_
    first
    | (refine q_eq (y := countZ S len tr td x) ?_ hq; rw [c_1]; rfl)
    | (refine q_eq ?_ hq; unfold countZ; (repeat' split) <;> omega)
  · -- 88
    refine xj_aload_n (pc2 := 89) dX7_howMany_88 rfl rfl rfl ?_
    refine xj_iload_n (pc2 := 90) dX7_howMany_89 rfl rfl rfl ?_
    refine xj_V1I (pc2 := 93) (d2 := 5) mok_X7_ofWearers ml_X7_282 ima_yX7_ofWearers sel_yX7_ofWearers rfl rfl dX7_howMany_90 rfl rfl (by decide) (by decide) (Nat.le_of_ble_eq_true rfl) (fun _ => rfl) ?_
    refine c_X7_ofWearers hM hW (by omega) ?_
    refine xj_iret dX7_howMany_93 rfl ?_
    first
    | (refine q_eq (y := countZ S len tr td x) ?_ hq; rw [c_1]; rfl)
    | (refine q_eq ?_ hq; unfold countZ; (repeat' split) <;> omega)
  · -- 88
    refine xj_aload_n (pc2 := 89) dX7_howMany_88 rfl rfl rfl ?_
    refine xj_iload_n (pc2 := 90) dX7_howMany_89 rfl rfl rfl ?_
    refine xj_V1I (pc2 := 93) (d2 := 5) mok_X7_ofWearers ml_X7_282 ima_yX7_ofWearers sel_yX7_ofWearers rfl rfl dX7_howMany_90 rfl rfl (by decide) (by decide) (Nat.le_of_ble_eq_true rfl) (fun _ => rfl) ?_
    refine c_X7_ofWearers hM hW (by omega) ?_
    refine xj_iret dX7_howMany_93 rfl ?_
    first
    | (refine q_eq (y := countZ S len tr td x) ?_ hq; rw [c_1]; rfl)
    | (refine q_eq ?_ hq; unfold countZ; (repeat' split) <;> omega)
  · -- 94
    refine xj_aload_n (pc2 := 95) dX7_howMany_94 rfl rfl rfl ?_
    refine xj_iconst (pc2 := 96) dX7_howMany_95 rfl ?_
    refine xj_V1I (pc2 := 99) (d2 := 4) mok_X7_ofGloves ml_X7_285 ima_yX7_ofGloves sel_yX7_ofGloves rfl rfl dX7_howMany_96 rfl rfl (by decide) (by decide) (Nat.le_of_ble_eq_true rfl) (fun _ => rfl) ?_
    refine c_X7_ofGloves hM hW (by omega) ?_
    refine xj_iret dX7_howMany_99 rfl ?_
    first
    | (refine q_eq (y := countZ S len tr td x) ?_ hq; rw [c_1]; rfl)
    | (refine q_eq ?_ hq; unfold countZ; (repeat' split) <;> omega)
  · -- 100
    refine xj_aload_n (pc2 := 101) dX7_howMany_100 rfl rfl rfl ?_
    refine xj_iconst (pc2 := 102) dX7_howMany_101 rfl ?_
    refine xj_V1I (pc2 := 105) (d2 := 4) mok_X7_ofGloves ml_X7_285 ima_yX7_ofGloves sel_yX7_ofGloves rfl rfl dX7_howMany_102 rfl rfl (by decide) (by decide) (Nat.le_of_ble_eq_true rfl) (fun _ => rfl) ?_
    refine c_X7_ofGloves hM hW (by omega) ?_
    refine xj_iret dX7_howMany_105 rfl ?_
    first
    | (refine q_eq (y := countZ S len tr td x) ?_ hq; rw [c_1]; rfl)
    | (refine q_eq ?_ hq; unfold countZ; (repeat' split) <;> omega)
  · -- 106
    refine xj_aload_n (pc2 := 107) dX7_howMany_106 rfl rfl rfl ?_
    refine xj_getI (pc2 := 110) (kz := 11) fok_X7_125 dX7_howMany_107 rfl rfl rfl (by decide) rfl (by first | assumption | rfl) ?_
    refine xj_iret dX7_howMany_110 rfl ?_
    first
    | (refine q_eq (y := countZ S len tr td x) ?_ hq; rw [c_1]; rfl)
    | (refine q_eq ?_ hq; unfold countZ; (repeat' split) <;> omega)
  · -- 111
    refine xj_aload_n (pc2 := 112) dX7_howMany_111 rfl rfl rfl ?_
    refine xj_getI (pc2 := 115) (kz := 15) fok_X7_81 dX7_howMany_112 rfl rfl rfl (by decide) rfl (by first | assumption | rfl) ?_
    refine xj_iret dX7_howMany_115 rfl ?_
    first
    | (refine q_eq (y := countZ S len tr td x) ?_ hq; rw [c_1]; rfl)
    | (refine q_eq ?_ hq; unfold countZ; (repeat' split) <;> omega)
  · -- 116
    refine xj_aload_n (pc2 := 117) dX7_howMany_116 rfl rfl rfl ?_
    refine xj_getI (pc2 := 120) (kz := 0) fok_X7_122 dX7_howMany_117 rfl rfl rfl (by decide) rfl (by first | assumption | rfl) ?_
    refine xj_iret dX7_howMany_120 rfl ?_
    first
    | (refine q_eq (y := countZ S len tr td x) ?_ hq; rw [c_1]; rfl)
    | (refine q_eq ?_ hq; unfold countZ; (repeat' split) <;> omega)
  · -- 121
    refine xj_aload_n (pc2 := 122) dX7_howMany_121 rfl rfl rfl ?_
    refine xj_getI (pc2 := 125) (kz := 10) fok_X7_215 dX7_howMany_122 rfl rfl rfl (by decide) rfl (by first | assumption | rfl) ?_
    refine xj_iret dX7_howMany_125 rfl ?_
    first
    | (refine q_eq (y := countZ S len tr td x) ?_ hq; rw [c_1]; rfl)
    | (refine q_eq ?_ hq; unfold countZ; (repeat' split) <;> omega)
  · -- 126
    refine xj_bipush (pc2 := 128) dX7_howMany_126 rfl (by decide) ?_
    refine xj_iret dX7_howMany_128 rfl ?_
    first
    | (refine q_eq (y := countZ S len tr td x) ?_ hq; rw [c_1]; rfl)
    | (refine q_eq ?_ hq; unfold countZ; (repeat' split) <;> omega)
theorem c_X7_count {S I : Sh} {len x : Int} {pg : Int → Int} {im tr td : Int} {h : Hp} {Q : Int → Hp → Prop} (hK : KM S I len pg im tr td h) (hW : WF S) (hx : -2147483648 ≤ x ∧ x ≤ 2147483647) (hq : Q (countZ S len tr td x) h) : CJ 7 kX7_count [.ref 9, vi x] h Q := by
  refine cj_of (lo := [some (.ref 9), some (vi x)]) mok_X7_count (fun _ => rfl) (fun _ => Nat.le_of_ble_eq_true rfl) ?_
  refine xj_aload_n (pc2 := 1) dX7_count_0 rfl rfl rfl ?_
  refine xj_iload_n (pc2 := 2) dX7_count_1 rfl rfl rfl ?_
  refine xj_V1I (pc2 := 5) (d2 := 6) mok_X7_howMany ml_X7_289 ima_yX7_howMany sel_yX7_howMany rfl rfl dX7_count_2 rfl rfl (by decide) (by decide) (Nat.le_of_ble_eq_true rfl) (fun _ => rfl) ?_
  refine c_X7_howMany hK hW (by omega) ?_
  refine xj_iret dX7_count_5 rfl ?_
  exact hq
theorem c_X7_mix {a v : Int} {h : Hp} {Q : Int → Hp → Prop} (ha : h 9 37 = a) (hq : Q 0 (hset h 9 37 (31 * a + v))) : CJ 0 kX7_mix [.ref 9, vl v] h Q := by
  refine cj_of (lo := [some (.ref 9), some (vl v), none]) mok_X7_mix (fun _ => rfl) (fun _ => Nat.le_of_ble_eq_true rfl) ?_
  refine xj_aload_n (pc2 := 1) dX7_mix_0 rfl rfl rfl ?_
  refine xj_ldc2 (pc2 := 4) (n := 31) dX7_mix_1 rfl k_X7_292 rfl ?_
  refine xj_aload_n (pc2 := 5) dX7_mix_4 rfl rfl rfl ?_
  refine xj_getJ (pc2 := 8) (kz := 37) fok_X7_294 dX7_mix_5 rfl rfl rfl rfl rfl (by first | assumption | rfl) ?_
  refine xj_lmul (pc2 := 9) dX7_mix_8 rfl ?_
  refine xj_lload_n (pc2 := 10) dX7_mix_9 rfl rfl rfl ?_
  refine xj_ladd (pc2 := 11) dX7_mix_10 rfl ?_
  refine xj_putJ (pc2 := 14) (kz := 37) fok_X7_294 dX7_mix_11 rfl rfl rfl rfl rfl ?_
  refine xj_vret dX7_mix_14 rfl ?_
  exact hq
def DF (h h' : Hp) : Prop := ∀ c k, c ≠ 165 → c ≠ 166 → (c ≠ 9 ∨ k ≠ 37) → h' c k = h c k
theorem DF_rf {h : Hp} : DF h h := fun _ _ _ _ _ => rfl
theorem DF_37 {h h' : Hp} {v : Int} (f : DF h h') : DF h (hset h' 9 37 v) := fun c k q1 q2 q3 => by
  rw [show hset h' 9 37 v c k = h' c k from if_neg (by omega)]
  exact f c k q1 q2 q3
theorem DF_FR {h h' h2 : Hp} (f : DF h h') (e : FR h' h2) : DF h h2 := fun c k q1 q2 q3 => (e c k q1 q2).trans (f c k q1 q2 q3)
theorem RM_DF {S : Sh} {h h' : Hp} (hM : RM S h) (e : DF h h') : RM S h' := RM_eq hM (e _ _ (by decide) (by decide) (by decide)) (e _ _ (by decide) (by decide) (by decide)) (e _ _ (by decide) (by decide) (by decide)) (e _ _ (by decide) (by decide) (by decide)) (fun c k q => e c k (by omega) (by omega) (by omega))
theorem KM_DF {S I : Sh} {len : Int} {pg : Int → Int} {im tr td : Int} {h h' : Hp} (hK : KM S I len pg im tr td h) (hf : DF h h') : KM S I len pg im tr td h' := KM_eq hK (fun c k q => hf c k (by unfold LM at q; omega) (by unfold LM at q; omega) (by unfold LM at q; omega))
theorem odd46 {S : Sh} {w x : Int} (hw0 : 0 ≤ w ∧ w < S 6 1) (hx : 0 ≤ x ∧ x ≤ 1) : oddsZ S w 4 6 x = (if x = 0 then oddA S w 4 6 / gcz (oddA S w 4 6) (10 ^ 4) else 10 ^ 4 / gcz (oddA S w 4 6) (10 ^ 4)) := by
  unfold oddsZ
  rw [if_neg (fun q => q hw0), if_neg (fun q => q ⟨by decide, by decide, hx⟩)]
  rfl
theorem c_X7_mixWearer {S : Sh} {w a : Int} {h : Hp} {Q : Int → Hp → Prop} (hM : RM S h) (hW : WF S) (hw0 : 0 ≤ w ∧ w < S 6 1) (ha : h 9 37 = a) (hq : ∀ h', DF h h' → h' 9 37 = digW S w a → Q 0 h') : CJ 6 kX7_mixWearer [.ref 9, vi w] h Q := by
  have hnn := wf_n hW
  have hM0 := hM
  have hng := nG_eq hW
  have ho := bsum_le6 (p := heldP S w) (n := nG S) (by omega)
  have hmv := moodZ_rg hW (b := bsum (heldP S w) (nG S)) (m := 5) hw0 (by decide)
  have ev : moodV S w 5 = moodZ S w (bsum (heldP S w) (nG S)) 5 := by unfold moodV; rw [if_neg (fun q => q hw0), if_neg (by decide)]
  have o0 : (if (0 : Int) = 0 then oddA S w 4 6 / gcz (oddA S w 4 6) (10 ^ 4) else 10 ^ 4 / gcz (oddA S w 4 6) (10 ^ 4)) = oddsZ S w 4 6 0 := (odd46 hw0 (by decide)).symm
  have o1 : (if (1 : Int) = 0 then oddA S w 4 6 / gcz (oddA S w 4 6) (10 ^ 4) else 10 ^ 4 / gcz (oddA S w 4 6) (10 ^ 4)) = oddsZ S w 4 6 1 := (odd46 hw0 (by decide)).symm
  have r0 := oddsZ_rg S w 4 6 0
  have r1 := oddsZ_rg S w 4 6 1
  unfold digW at hq
  rw [ev] at hq
  refine cj_of (lo := [some (.ref 9), some (vi w), none]) mok_X7_mixWearer (fun _ => rfl) (fun _ => Nat.le_of_ble_eq_true rfl) ?_
  refine xj_iconst (pc2 := 1) dX7_mixWearer_0 rfl ?_
  refine xj_istore2 (pc2 := 2) dX7_mixWearer_1 rfl rfl (by decide) rfl ?_
  refine down (P := fun j => ∀ h' : Hp, DF h h' → h' 9 37 = it (fun x a => 31 * a + wearerZ S w x) a j → XJ none 6 kX7_mixWearer h' 2 [some (.ref 9), some (vi w), some (vi j)] [] Q) (n := 9) ?_ ?_ h DF_rf ha
  · intro h' hf he
    have hM := RM_DF hM0 hf
    have hM2 : ∀ v, RM S (hset h' 9 37 v) := fun v => RM_DF hM0 (DF_37 hf)
    have hM3 : ∀ v u, RM S (hset (hset h' 9 37 v) 9 37 u) := fun v u => RM_DF hM0 (DF_37 (DF_37 hf))
    refine xj_iload_n (pc2 := 3) dX7_mixWearer_2 rfl rfl rfl ?_
    refine xj_bipush (pc2 := 5) dX7_mixWearer_3 rfl (by decide) ?_
    refine xj_cmp_ge (pc2 := 8) (tgt := 25) dX7_mixWearer_5 rfl rfl (by omega) (by omega) (fun c_5 => ?_) (fun c_5 => by exfalso; omega)
    refine xj_aload_n (pc2 := 26) dX7_mixWearer_25 rfl rfl rfl ?_
    refine xj_aload_n (pc2 := 27) dX7_mixWearer_26 rfl rfl rfl ?_
    refine xj_iload_n (pc2 := 28) dX7_mixWearer_27 rfl rfl rfl ?_
    refine xj_aload_n (pc2 := 29) dX7_mixWearer_28 rfl rfl rfl ?_
    refine xj_iload_n (pc2 := 30) dX7_mixWearer_29 rfl rfl rfl ?_
    refine xj_V1I (pc2 := 33) (d2 := 0) mok_X7_wornBy ml_X7_146 ima_yX7_wornBy sel_yX7_wornBy rfl rfl dX7_mixWearer_30 rfl rfl (by decide) (by decide) (Nat.le_of_ble_eq_true rfl) (fun _ => rfl) ?_
    refine c_X7_wornBy hM hW (by omega) ?_
    refine xj_iconst (pc2 := 34) dX7_mixWearer_33 rfl ?_
    refine xj_V3I (pc2 := 37) (d2 := 3) mok_X7_moodWith ml_X7_149 ima_yX7_moodWith sel_yX7_moodWith rfl rfl dX7_mixWearer_34 rfl rfl (by decide) (by decide) (Nat.le_of_ble_eq_true rfl) (fun _ => rfl) ?_
    refine c_X7_moodWith hM hW (by omega) (by omega) (by omega) ?_
    refine xj_i2l (pc2 := 38) dX7_mixWearer_37 rfl (by omega) ?_
    refine xj_V1V (pc2 := 41) (d2 := 0) mok_X7_mix ml_X7_297 ima_yX7_mix sel_yX7_mix rfl rfl dX7_mixWearer_38 rfl rfl (by decide) (by decide) (Nat.le_of_ble_eq_true rfl) (fun _ => rfl) ?_
    refine c_X7_mix he ?_
    refine xj_aload_n (pc2 := 42) dX7_mixWearer_41 rfl rfl rfl ?_
    refine xj_aload_n (pc2 := 43) dX7_mixWearer_42 rfl rfl rfl ?_
    refine xj_iload_n (pc2 := 44) dX7_mixWearer_43 rfl rfl rfl ?_
    refine xj_iconst (pc2 := 45) dX7_mixWearer_44 rfl ?_
    refine xj_bipush (pc2 := 47) dX7_mixWearer_45 rfl (by decide) ?_
    refine xj_iconst (pc2 := 48) dX7_mixWearer_47 rfl ?_
    refine xj_V4I (pc2 := 51) (d2 := 4) mok_X7_oddsNow ml_X7_236 ima_yX7_oddsNow sel_yX7_oddsNow rfl rfl dX7_mixWearer_48 rfl rfl (by decide) (by decide) (Nat.le_of_ble_eq_true rfl) (fun _ => rfl) ?_
    refine c_X7_oddsNow (n := 4) (hM2 _) hW hw0 (by decide) (by decide) (by decide) ?_
    rw [o0]
    refine xj_i2l (pc2 := 52) dX7_mixWearer_51 rfl (by omega) ?_
    refine xj_V1V (pc2 := 55) (d2 := 0) mok_X7_mix ml_X7_297 ima_yX7_mix sel_yX7_mix rfl rfl dX7_mixWearer_52 rfl rfl (by decide) (by decide) (Nat.le_of_ble_eq_true rfl) (fun _ => rfl) ?_
    refine c_X7_mix (hset_eq _ _ _ _) ?_
    refine xj_aload_n (pc2 := 56) dX7_mixWearer_55 rfl rfl rfl ?_
    refine xj_aload_n (pc2 := 57) dX7_mixWearer_56 rfl rfl rfl ?_
    refine xj_iload_n (pc2 := 58) dX7_mixWearer_57 rfl rfl rfl ?_
    refine xj_iconst (pc2 := 59) dX7_mixWearer_58 rfl ?_
    refine xj_bipush (pc2 := 61) dX7_mixWearer_59 rfl (by decide) ?_
    refine xj_iconst (pc2 := 62) dX7_mixWearer_61 rfl ?_
    refine xj_V4I (pc2 := 65) (d2 := 4) mok_X7_oddsNow ml_X7_236 ima_yX7_oddsNow sel_yX7_oddsNow rfl rfl dX7_mixWearer_62 rfl rfl (by decide) (by decide) (Nat.le_of_ble_eq_true rfl) (fun _ => rfl) ?_
    refine c_X7_oddsNow (n := 4) (hM3 _ _) hW hw0 (by decide) (by decide) (by decide) ?_
    rw [o1]
    refine xj_i2l (pc2 := 66) dX7_mixWearer_65 rfl (by omega) ?_
    refine xj_V1V (pc2 := 69) (d2 := 0) mok_X7_mix ml_X7_297 ima_yX7_mix sel_yX7_mix rfl rfl dX7_mixWearer_66 rfl rfl (by decide) (by decide) (Nat.le_of_ble_eq_true rfl) (fun _ => rfl) ?_
    refine c_X7_mix (hset_eq _ _ _ _) ?_
    refine xj_vret dX7_mixWearer_69 rfl ?_
    exact hq _ (DF_37 (DF_37 (DF_37 hf))) (hset_eq _ _ _ _)
  · intro j hj ih h' hf he
    have hM := RM_DF hM0 hf
    have hwr := wearerZ_rg hW w j
    refine xj_iload_n (pc2 := 3) dX7_mixWearer_2 rfl rfl rfl ?_
    refine xj_bipush (pc2 := 5) dX7_mixWearer_3 rfl (by decide) ?_
    refine xj_cmp_ge (pc2 := 8) (tgt := 25) dX7_mixWearer_5 rfl rfl (by omega) (by omega) (fun c_5 => by exfalso; omega) (fun c_5 => ?_)
    refine xj_aload_n (pc2 := 9) dX7_mixWearer_8 rfl rfl rfl ?_
    refine xj_aload_n (pc2 := 10) dX7_mixWearer_9 rfl rfl rfl ?_
    refine xj_iload_n (pc2 := 11) dX7_mixWearer_10 rfl rfl rfl ?_
    refine xj_iload_n (pc2 := 12) dX7_mixWearer_11 rfl rfl rfl ?_
    refine xj_V2I (pc2 := 15) (d2 := 5) mok_X7_wearerNow ml_X7_185 ima_yX7_wearerNow sel_yX7_wearerNow rfl rfl dX7_mixWearer_12 rfl rfl (by decide) (by decide) (Nat.le_of_ble_eq_true rfl) (fun _ => rfl) ?_
    refine c_X7_wearerNow hM hW hw0 (by omega) ?_
    refine xj_i2l (pc2 := 16) dX7_mixWearer_15 rfl (by omega) ?_
    refine xj_V1V (pc2 := 19) (d2 := 0) mok_X7_mix ml_X7_297 ima_yX7_mix sel_yX7_mix rfl rfl dX7_mixWearer_16 rfl rfl (by decide) (by decide) (Nat.le_of_ble_eq_true rfl) (fun _ => rfl) ?_
    refine c_X7_mix he ?_
    refine xj_iinc2 (pc2 := 22) dX7_mixWearer_19 rfl (by decide) rfl ?_
    refine xj_goto (tgt := 2) dX7_mixWearer_22 rfl ?_
    exact ih _ (DF_37 hf) (hset_eq _ _ _ _)
theorem c_X7_digest {S I : Sh} {len : Int} {pg : Int → Int} {im tr td : Int} {h : Hp} {Q : Int → Hp → Prop} (hK : KM S I len pg im tr td h) (hKW : KW S I im tr td) (hq : ∀ h', KM S I len pg im tr td h' → FrM h h' → Q (dgZ S len pg tr td) h') : CJ 7 kX7_digest [.ref 9] h Q := by
  have hW := hKW.1
  obtain ⟨hM0, k2, ⟨k3, k4, k5⟩, k6, k7, k8⟩ := id hK
  have hK0 := hK
  have hnn := wf_n hW
  have hng := nG_eq hW
  have hnw := nW_eq hW
  have hba := bA_rg (S := S) (by omega)
  have hbn := bA_nn S
  have st5 : ∀ h1 : Hp, DF h h1 → h1 9 37 = dg4 S len pg → XJ none 7 kX7_digest h1 140 [some (.ref 9), some (vi 0), none] [] Q := by
    intro h1 hf1 he1
    refine down (P := fun j => ∀ h' : Hp, DF h h' → h' 9 37 = it (fun x a => 31 * a + countZ S len tr td x) (dg4 S len pg) j → XJ none 7 kX7_digest h' 140 [some (.ref 9), some (vi j), none] [] Q) (n := 13) ?_ ?_ h1 hf1 he1
    · intro h' hf he
      have hfin := hq h' (KM_DF hK0 hf) (fun c k q1 q2 => hf c k (by omega) (by omega) (Or.inl q2))
      have he : h' 9 37 = dgZ S len pg tr td := he
      refine xj_iload_n (pc2 := 141) dX7_digest_140 rfl rfl rfl ?_
      refine xj_bipush (pc2 := 143) dX7_digest_141 rfl (by decide) ?_
      refine xj_cmp_ge (pc2 := 146) (tgt := 162) dX7_digest_143 rfl rfl (by omega) (by omega) (fun c_143 => ?_) (fun c_143 => by exfalso; omega)
      refine xj_aload_n (pc2 := 163) dX7_digest_162 rfl rfl rfl ?_
      refine xj_getJ (pc2 := 166) (kz := 37) fok_X7_294 dX7_digest_163 rfl rfl rfl rfl rfl (by first | assumption | rfl) ?_
      refine xj_lret dX7_digest_166 rfl ?_
      exact hfin
    · intro j hj ih h' hf he
      have hK := KM_DF hK0 hf
      have hcr := countZ_rg hKW (len := len) k4 j
      refine xj_iload_n (pc2 := 141) dX7_digest_140 rfl rfl rfl ?_
      refine xj_bipush (pc2 := 143) dX7_digest_141 rfl (by decide) ?_
      refine xj_cmp_ge (pc2 := 146) (tgt := 162) dX7_digest_143 rfl rfl (by omega) (by omega) (fun c_143 => by exfalso; omega) (fun c_143 => ?_)
      refine xj_aload_n (pc2 := 147) dX7_digest_146 rfl rfl rfl ?_
      refine xj_aload_n (pc2 := 148) dX7_digest_147 rfl rfl rfl ?_
      refine xj_iload_n (pc2 := 149) dX7_digest_148 rfl rfl rfl ?_
      refine xj_V1I (pc2 := 152) (d2 := 6) mok_X7_howMany ml_X7_289 ima_yX7_howMany sel_yX7_howMany rfl rfl dX7_digest_149 rfl rfl (by decide) (by decide) (Nat.le_of_ble_eq_true rfl) (fun _ => rfl) ?_
      refine c_X7_howMany hK hW (by omega) ?_
      refine xj_i2l (pc2 := 153) dX7_digest_152 rfl (by omega) ?_
      refine xj_V1V (pc2 := 156) (d2 := 0) mok_X7_mix ml_X7_297 ima_yX7_mix sel_yX7_mix rfl rfl dX7_digest_153 rfl rfl (by decide) (by decide) (Nat.le_of_ble_eq_true rfl) (fun _ => rfl) ?_
      refine c_X7_mix he ?_
      refine xj_iinc1 (pc2 := 159) dX7_digest_156 rfl (by decide) rfl ?_
      refine xj_goto (tgt := 140) dX7_digest_159 rfl ?_
      exact ih _ (DF_37 hf) (hset_eq _ _ _ _)
  have st4 : ∀ h1 : Hp, DF h h1 → h1 9 37 = dg3 S → XJ none 7 kX7_digest h1 113 [some (.ref 9), some (vi 0), none] [] Q := by
    intro h1 hf1 he1
    obtain ⟨n, hn⟩ : ∃ n : Nat, n = len.toNat := ⟨_, rfl⟩
    refine down (P := fun j => ∀ h' : Hp, DF h h' → h' 9 37 = it (fun k a => 31 * a + pg k) (dg3 S) j → XJ none 7 kX7_digest h' 113 [some (.ref 9), some (vi j), none] [] Q) (n := n) ?_ ?_ h1 hf1 he1
    · intro h' hf he
      have k3' : h' 9 15 = len := (hf 9 15 (by decide) (by decide) (by decide)).trans k3
      rw [hn] at he
      refine xj_iload_n (pc2 := 114) dX7_digest_113 rfl rfl rfl ?_
      refine xj_aload_n (pc2 := 115) dX7_digest_114 rfl rfl rfl ?_
      refine xj_getI (pc2 := 118) (kz := 15) fok_X7_81 dX7_digest_115 rfl rfl rfl (by decide) rfl (by first | assumption | rfl) ?_
      refine xj_cmp_ge (pc2 := 121) (tgt := 138) dX7_digest_118 rfl rfl (by omega) (by omega) (fun c_118 => ?_) (fun c_118 => by exfalso; omega)
      refine xj_iconst (pc2 := 139) dX7_digest_138 rfl ?_
      refine xj_istore1 (pc2 := 140) dX7_digest_139 rfl rfl (by decide) rfl ?_
      exact st5 _ hf he
    · intro j hj ih h' hf he
      have k3' : h' 9 15 = len := (hf 9 15 (by decide) (by decide) (by decide)).trans k3
      have kp := k5 j (by omega) (by omega)
      have kp1 : h' 161 (j : Int) = pg j := (hf 161 _ (by decide) (by decide) (Or.inl (by decide))).trans kp.1
      refine xj_iload_n (pc2 := 114) dX7_digest_113 rfl rfl rfl ?_
      refine xj_aload_n (pc2 := 115) dX7_digest_114 rfl rfl rfl ?_
      refine xj_getI (pc2 := 118) (kz := 15) fok_X7_81 dX7_digest_115 rfl rfl rfl (by decide) rfl (by first | assumption | rfl) ?_
      refine xj_cmp_ge (pc2 := 121) (tgt := 138) dX7_digest_118 rfl rfl (by omega) (by omega) (fun c_118 => by exfalso; omega) (fun c_118 => ?_)
      refine xj_aload_n (pc2 := 122) dX7_digest_121 rfl rfl rfl ?_
      refine xj_aload_n (pc2 := 123) dX7_digest_122 rfl rfl rfl ?_
      refine xj_getRn (pc2 := 126) (c2 := 161) fok_X7_37 dX7_digest_123 rfl rfl rfl rfl rfl ?_
      refine xj_iload_n (pc2 := 127) dX7_digest_126 rfl rfl rfl ?_
      refine xj_bald (pc2 := 128) dX7_digest_127 rfl rfl (by omega) (by omega) kp1 ?_
      refine xj_i2l (pc2 := 129) dX7_digest_128 rfl (by omega) ?_
      refine xj_V1V (pc2 := 132) (d2 := 0) mok_X7_mix ml_X7_297 ima_yX7_mix sel_yX7_mix rfl rfl dX7_digest_129 rfl rfl (by decide) (by decide) (Nat.le_of_ble_eq_true rfl) (fun _ => rfl) ?_
      refine c_X7_mix he ?_
      refine xj_iinc1 (pc2 := 135) dX7_digest_132 rfl (by decide) rfl ?_
      refine xj_goto (tgt := 113) dX7_digest_135 rfl ?_
      exact ih _ (DF_37 hf) (hset_eq _ _ _ _)
  have st3b : ∀ h1 : Hp, 0 < S 6 0 → DF h h1 → h1 9 37 = 31 * dg2 S + (bA S).1 → XJ none 7 kX7_digest h1 89 [some (.ref 9), some (vi 10), none] [] Q := by
    intro h1 hpos hf1 he1
    have e3 : it (fun g a => 31 * a + bestB S g) (31 * dg2 S + (bA S).1) 6 = dg3 S := by unfold dg3 digB; rw [if_pos hpos]
    refine down (P := fun j => ∀ (h' : Hp) (y : Int), y = 10 + j → DF h h' → h' 9 37 = it (fun g a => 31 * a + bestB S g) (31 * dg2 S + (bA S).1) j → XJ none 7 kX7_digest h' 89 [some (.ref 9), some (vi y), none] [] Q) (n := 6) ?_ ?_ h1 10 rfl hf1 he1
    · intro h' y hy hf he
      rw [e3] at he
      refine xj_iload_n (pc2 := 90) dX7_digest_89 rfl rfl rfl ?_
      refine xj_bipush (pc2 := 92) dX7_digest_90 rfl (by decide) ?_
      refine xj_cmp_ge (pc2 := 95) (tgt := 111) dX7_digest_92 rfl rfl (by omega) (by omega) (fun c_92 => ?_) (fun c_92 => by exfalso; omega)
      refine xj_iconst (pc2 := 112) dX7_digest_111 rfl ?_
      refine xj_istore1 (pc2 := 113) dX7_digest_112 rfl rfl (by decide) rfl ?_
      exact st4 _ hf he
    · intro j hj ih h' y hy hf he
      have hM := RM_DF hM0 hf
      have hbb := bestB_rg hW (y := y - 10) (by omega)
      have ey : (if y = 0 then (bA S).1 else bestB S (y - 10)) = bestB S (y - 10) := if_neg (by omega)
      refine xj_iload_n (pc2 := 90) dX7_digest_89 rfl rfl rfl ?_
      refine xj_bipush (pc2 := 92) dX7_digest_90 rfl (by decide) ?_
      refine xj_cmp_ge (pc2 := 95) (tgt := 111) dX7_digest_92 rfl rfl (by omega) (by omega) (fun c_92 => by exfalso; omega) (fun c_92 => ?_)
      refine xj_aload_n (pc2 := 96) dX7_digest_95 rfl rfl rfl ?_
      refine xj_aload_n (pc2 := 97) dX7_digest_96 rfl rfl rfl ?_
      refine xj_iload_n (pc2 := 98) dX7_digest_97 rfl rfl rfl ?_
      refine xj_V1I (pc2 := 101) (d2 := 4) mok_X7_boxesNow ml_X7_230 ima_yX7_boxesNow sel_yX7_boxesNow rfl rfl dX7_digest_98 rfl rfl (by decide) (by decide) (Nat.le_of_ble_eq_true rfl) (fun _ => rfl) ?_
      refine c_X7_boxesNow hM hW (by omega) ?_
      intro h3 hf3
      rw [ey]
      have he : h3 9 37 = _ := (hf3 9 37 (by decide) (by decide)).trans he
      refine xj_i2l (pc2 := 102) dX7_digest_101 rfl (by omega) ?_
      refine xj_V1V (pc2 := 105) (d2 := 0) mok_X7_mix ml_X7_297 ima_yX7_mix sel_yX7_mix rfl rfl dX7_digest_102 rfl rfl (by decide) (by decide) (Nat.le_of_ble_eq_true rfl) (fun _ => rfl) ?_
      refine c_X7_mix he ?_
      refine xj_iinc1 (pc2 := 108) dX7_digest_105 rfl (by decide) rfl ?_
      refine xj_goto (tgt := 89) dX7_digest_108 rfl ?_
      exact ih _ _ (by omega) (DF_37 (DF_FR hf hf3)) (by rw [hset_eq, show y - 10 = (j : Int) by omega]; rfl)
  have st3 : ∀ h1 : Hp, DF h h1 → h1 9 37 = dg2 S → XJ none 7 kX7_digest h1 69 [some (.ref 9), none, none] [] Q := by
    intro h1 hf he
    have hM := RM_DF hM0 hf
    have hn' := hM.1.1
    have e3 : ¬ 0 < S 6 0 → dg3 S = dg2 S := fun q => by unfold dg3; exact if_neg q
    refine xj_aload_n (pc2 := 70) dX7_digest_69 rfl rfl rfl ?_
    refine xj_getI (pc2 := 73) (kz := 1) fok_X7_113 dX7_digest_70 rfl rfl rfl (by decide) rfl (by first | assumption | rfl) ?_
    refine xj_if_le (pc2 := 76) (tgt := 111) dX7_digest_73 rfl rfl (by omega) (fun c_73 => ?_) (fun c_73 => ?_)
    · -- 111
      refine xj_iconst (pc2 := 112) dX7_digest_111 rfl ?_
      refine xj_istore1 (pc2 := 113) dX7_digest_112 rfl rfl (by decide) rfl ?_
      exact xj_sub (by repeat (first | exact subL_nil | apply subL_none | apply subL_some rfl)) (st4 _ hf (by rw [he, e3 (by omega)]))
    · -- 76
      refine xj_aload_n (pc2 := 77) dX7_digest_76 rfl rfl rfl ?_
      refine xj_aload_n (pc2 := 78) dX7_digest_77 rfl rfl rfl ?_
      refine xj_iconst (pc2 := 79) dX7_digest_78 rfl ?_
      refine xj_V1I (pc2 := 82) (d2 := 4) mok_X7_boxesNow ml_X7_230 ima_yX7_boxesNow sel_yX7_boxesNow rfl rfl dX7_digest_79 rfl rfl (by decide) (by decide) (Nat.le_of_ble_eq_true rfl) (fun _ => rfl) ?_
      refine c_X7_boxesNow hM hW (by omega) ?_
      intro h3 hf3
      rw [if_pos rfl]
      have he : h3 9 37 = _ := (hf3 9 37 (by decide) (by decide)).trans he
      refine xj_i2l (pc2 := 83) dX7_digest_82 rfl (by omega) ?_
      refine xj_V1V (pc2 := 86) (d2 := 0) mok_X7_mix ml_X7_297 ima_yX7_mix sel_yX7_mix rfl rfl dX7_digest_83 rfl rfl (by decide) (by decide) (Nat.le_of_ble_eq_true rfl) (fun _ => rfl) ?_
      refine c_X7_mix he ?_
      refine xj_bipush (pc2 := 88) dX7_digest_86 rfl (by decide) ?_
      refine xj_istore1 (pc2 := 89) dX7_digest_88 rfl rfl (by decide) rfl ?_
      exact st3b _ (by omega) (DF_37 (DF_FR hf hf3)) (hset_eq _ _ _ _)
  have st2 : ∀ h1 : Hp, DF h h1 → h1 9 37 = dg1 S → XJ none 7 kX7_digest h1 50 [some (.ref 9), some (vi 0), none] [] Q := by
    intro h1 hf1 he1
    refine down (P := fun j => ∀ h' : Hp, DF h h' → h' 9 37 = it (fun w a => digW S w a) (dg1 S) j → XJ none 7 kX7_digest h' 50 [some (.ref 9), some (vi j), none] [] Q) (n := nW S) ?_ ?_ h1 hf1 he1
    · intro h' hf he
      have hM := RM_DF hM0 hf
      have hw' := hM.1.2.1
      refine xj_iload_n (pc2 := 51) dX7_digest_50 rfl rfl rfl ?_
      refine xj_aload_n (pc2 := 52) dX7_digest_51 rfl rfl rfl ?_
      refine xj_getI (pc2 := 55) (kz := 2) fok_X7_116 dX7_digest_52 rfl rfl rfl (by decide) rfl (by first | assumption | rfl) ?_
      refine xj_cmp_ge (pc2 := 58) (tgt := 69) dX7_digest_55 rfl rfl (by omega) (by omega) (fun c_55 => ?_) (fun c_55 => by exfalso; omega)
      exact xj_sub (by repeat (first | exact subL_nil | apply subL_none | apply subL_some rfl)) (st3 _ hf he)
    · intro j hj ih h' hf he
      have hM := RM_DF hM0 hf
      have hw' := hM.1.2.1
      refine xj_iload_n (pc2 := 51) dX7_digest_50 rfl rfl rfl ?_
      refine xj_aload_n (pc2 := 52) dX7_digest_51 rfl rfl rfl ?_
      refine xj_getI (pc2 := 55) (kz := 2) fok_X7_116 dX7_digest_52 rfl rfl rfl (by decide) rfl (by first | assumption | rfl) ?_
      refine xj_cmp_ge (pc2 := 58) (tgt := 69) dX7_digest_55 rfl rfl (by omega) (by omega) (fun c_55 => by exfalso; omega) (fun c_55 => ?_)
      refine xj_aload_n (pc2 := 59) dX7_digest_58 rfl rfl rfl ?_
      refine xj_iload_n (pc2 := 60) dX7_digest_59 rfl rfl rfl ?_
      refine xj_V1V (pc2 := 63) (d2 := 6) mok_X7_mixWearer ml_X7_303 ima_yX7_mixWearer sel_yX7_mixWearer rfl rfl dX7_digest_60 rfl rfl (by decide) (by decide) (Nat.le_of_ble_eq_true rfl) (fun _ => rfl) ?_
      refine c_X7_mixWearer hM hW (by omega) he ?_
      intro h4 hf4 he4
      refine xj_iinc1 (pc2 := 66) dX7_digest_63 rfl (by decide) rfl ?_
      refine xj_goto (tgt := 50) dX7_digest_66 rfl ?_
      exact ih _ (fun c k q1 q2 q3 => (hf4 c k q1 q2 q3).trans (hf c k q1 q2 q3)) he4
  refine cj_of (lo := [some (.ref 9), none, none]) mok_X7_digest (fun _ => rfl) (fun _ => Nat.le_of_ble_eq_true rfl) ?_
  refine xj_aload_n (pc2 := 1) dX7_digest_0 rfl rfl rfl ?_
  refine xj_ldc2 (pc2 := 4) (n := 1237) dX7_digest_1 rfl k_X7_301 rfl ?_
  refine xj_putJ (pc2 := 7) (kz := 37) fok_X7_294 dX7_digest_4 rfl rfl rfl rfl rfl ?_
  refine xj_iconst (pc2 := 8) dX7_digest_7 rfl ?_
  refine xj_istore1 (pc2 := 9) dX7_digest_8 rfl rfl (by decide) rfl ?_
  refine down (P := fun j => ∀ h' : Hp, DF h h' → h' 9 37 = it (fun g a => digG S g a) 1237 j → XJ none 7 kX7_digest h' 9 [some (.ref 9), some (vi j), none] [] Q) (n := nG S) ?_ ?_ _ (DF_37 DF_rf) (hset_eq _ _ _ _)
  · intro h' hf he
    have hM := RM_DF hM0 hf
    have hn' := hM.1.1
    refine xj_iload_n (pc2 := 10) dX7_digest_9 rfl rfl rfl ?_
    refine xj_aload_n (pc2 := 11) dX7_digest_10 rfl rfl rfl ?_
    refine xj_getI (pc2 := 14) (kz := 1) fok_X7_113 dX7_digest_11 rfl rfl rfl (by decide) rfl (by first | assumption | rfl) ?_
    refine xj_cmp_ge (pc2 := 17) (tgt := 48) dX7_digest_14 rfl rfl (by omega) (by omega) (fun c_14 => ?_) (fun c_14 => by exfalso; omega)
    refine xj_iconst (pc2 := 49) dX7_digest_48 rfl ?_
    refine xj_istore1 (pc2 := 50) dX7_digest_49 rfl rfl (by decide) rfl ?_
    exact st2 _ hf he
  · intro j hj ih h' hf he
    have hM := RM_DF hM0 hf
    have hn' := hM.1.1
    have inner : XJ none 7 kX7_digest h' 19 [some (.ref 9), some (vi j), some (vi 0)] [] Q := by
      refine down (P := fun i => ∀ h' : Hp, DF h h' → h' 9 37 = it (fun x a => 31 * a + gloveZ S j x) (it (fun g a => digG S g a) 1237 j) i → XJ none 7 kX7_digest h' 19 [some (.ref 9), some (vi j), some (vi i)] [] Q) (n := 9) ?_ ?_ h' hf he
      · intro h' hf he
        refine xj_iload_n (pc2 := 20) dX7_digest_19 rfl rfl rfl ?_
        refine xj_bipush (pc2 := 22) dX7_digest_20 rfl (by decide) ?_
        refine xj_cmp_ge (pc2 := 25) (tgt := 42) dX7_digest_22 rfl rfl (by omega) (by omega) (fun c_22 => ?_) (fun c_22 => by exfalso; omega)
        refine xj_iinc1 (pc2 := 45) dX7_digest_42 rfl (by decide) rfl ?_
        refine xj_goto (tgt := 9) dX7_digest_45 rfl ?_
        exact xj_sub (by repeat (first | exact subL_nil | apply subL_none | apply subL_some rfl)) (ih _ hf he)
      · intro i hi ihi h' hf he
        have hM := RM_DF hM0 hf
        have hgr := gloveZ_rg hW j i
        refine xj_iload_n (pc2 := 20) dX7_digest_19 rfl rfl rfl ?_
        refine xj_bipush (pc2 := 22) dX7_digest_20 rfl (by decide) ?_
        refine xj_cmp_ge (pc2 := 25) (tgt := 42) dX7_digest_22 rfl rfl (by omega) (by omega) (fun c_22 => by exfalso; omega) (fun c_22 => ?_)
        refine xj_aload_n (pc2 := 26) dX7_digest_25 rfl rfl rfl ?_
        refine xj_aload_n (pc2 := 27) dX7_digest_26 rfl rfl rfl ?_
        refine xj_iload_n (pc2 := 28) dX7_digest_27 rfl rfl rfl ?_
        refine xj_iload_n (pc2 := 29) dX7_digest_28 rfl rfl rfl ?_
        refine xj_V2I (pc2 := 32) (d2 := 4) mok_X7_gloveNow ml_X7_167 ima_yX7_gloveNow sel_yX7_gloveNow rfl rfl dX7_digest_29 rfl rfl (by decide) (by decide) (Nat.le_of_ble_eq_true rfl) (fun _ => rfl) ?_
        refine c_X7_gloveNow hM hW (by omega) (by omega) ?_
        refine xj_i2l (pc2 := 33) dX7_digest_32 rfl (by omega) ?_
        refine xj_V1V (pc2 := 36) (d2 := 0) mok_X7_mix ml_X7_297 ima_yX7_mix sel_yX7_mix rfl rfl dX7_digest_33 rfl rfl (by decide) (by decide) (Nat.le_of_ble_eq_true rfl) (fun _ => rfl) ?_
        refine c_X7_mix he ?_
        refine xj_iinc2 (pc2 := 39) dX7_digest_36 rfl (by decide) rfl ?_
        refine xj_goto (tgt := 19) dX7_digest_39 rfl ?_
        exact ihi _ (DF_37 hf) (hset_eq _ _ _ _)
    refine xj_iload_n (pc2 := 10) dX7_digest_9 rfl rfl rfl ?_
    refine xj_aload_n (pc2 := 11) dX7_digest_10 rfl rfl rfl ?_
    refine xj_getI (pc2 := 14) (kz := 1) fok_X7_113 dX7_digest_11 rfl rfl rfl (by decide) rfl (by first | assumption | rfl) ?_
    refine xj_cmp_ge (pc2 := 17) (tgt := 48) dX7_digest_14 rfl rfl (by omega) (by omega) (fun c_14 => by exfalso; omega) (fun c_14 => ?_)
    refine xj_iconst (pc2 := 18) dX7_digest_17 rfl ?_
    refine xj_istore2 (pc2 := 19) dX7_digest_18 rfl rfl (by decide) rfl ?_
    exact inner
