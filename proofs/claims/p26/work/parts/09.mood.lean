/-! moods, quarrels, sets -/
theorem subL_nil {t : Lo} : subL [] t := trivial
theorem subL_none {t t' : Lo} {x : Option Value} (h : subL t t') : subL (none :: t) (x :: t') := h
theorem subL_some {t t' : Lo} {v v' : Value} (e : v = v') (h : subL t t') : subL (some v :: t) (some v' :: t') := ⟨e, h⟩
def ssum (f : Nat → Int) : Nat → Int
  | 0 => 0
  | j + 1 => ssum f j + f j
def lst (f : Nat → Int) (p : Nat → Bool) : Nat → Int
  | 0 => 9
  | j + 1 => if p j then min (lst f p j) (f j) else lst f p j
def mst (f : Nat → Int) (p : Nat → Bool) : Nat → Int
  | 0 => 0
  | j + 1 => if p j then max (mst f p j) (f j) else mst f p j
theorem ssum_rg {f : Nat → Int} {a b : Int} (ha : a ≤ 0) (hb : 0 ≤ b) : ∀ (n : Nat), (∀ j, j < n → a ≤ f j ∧ f j ≤ b) → a * n ≤ ssum f n ∧ ssum f n ≤ b * n
  | 0, _ => by simp [ssum]
  | n + 1, h => by
    have h1 := ssum_rg ha hb n (fun j hj => h j (by omega))
    have h2 := h n (by omega)
    have e1 : a * ((n + 1 : Nat) : Int) = a * n + a := by rw [Int.natCast_succ, Int.mul_add, Int.mul_one]
    have e2 : b * ((n + 1 : Nat) : Int) = b * n + b := by rw [Int.natCast_succ, Int.mul_add, Int.mul_one]
    show a * ((n + 1 : Nat) : Int) ≤ ssum f n + f n ∧ ssum f n + f n ≤ b * ((n + 1 : Nat) : Int)
    omega
theorem ssum_congr {f f' : Nat → Int} : ∀ (n : Nat), (∀ j, j < n → f j = f' j) → ssum f n = ssum f' n
  | 0, _ => rfl
  | n + 1, h => by
    show ssum f n + f n = ssum f' n + f' n
    rw [ssum_congr n (fun j hj => h j (by omega)), h n (by omega)]
theorem lst_rg {f : Nat → Int} {p : Nat → Bool} : ∀ (n : Nat), (∀ j, j < n → 0 ≤ f j ∧ f j ≤ 9) → 0 ≤ lst f p n ∧ lst f p n ≤ 9
  | 0, _ => by simp [lst]
  | n + 1, h => by
    have h1 := lst_rg (p := p) n (fun j hj => h j (by omega))
    have h2 := h n (by omega)
    unfold lst
    split <;> omega
theorem mst_rg {f : Nat → Int} {p : Nat → Bool} : ∀ (n : Nat), (∀ j, j < n → 0 ≤ f j ∧ f j ≤ 9) → 0 ≤ mst f p n ∧ mst f p n ≤ 9
  | 0, _ => by simp [mst]
  | n + 1, h => by
    have h1 := mst_rg (p := p) n (fun j hj => h j (by omega))
    have h2 := h n (by omega)
    unfold mst
    split <;> omega
/-- the widest gap is 4 or more, where a pair's is -/
theorem gap_iff {f : Nat → Int} {p : Nat → Bool} : ∀ (n : Nat), (∀ j, j < n → 0 ≤ f j ∧ f j ≤ 9) → (4 ≤ mst f p n - lst f p n ↔ ∃ g e : Nat, e < g ∧ g < n ∧ p g = true ∧ p e = true ∧ (4 ≤ f g - f e ∨ 4 ≤ f e - f g)) := by
  intro n hf
  have low : ∀ (n : Nat), (∀ j, j < n → 0 ≤ f j ∧ f j ≤ 9) → (∀ j, j < n → p j = true → lst f p n ≤ f j) ∧ (lst f p n = 9 ∨ ∃ j, j < n ∧ p j = true ∧ lst f p n = f j) := by
    intro n
    induction n with
    | zero => intro _; exact ⟨fun j hj => by omega, Or.inl rfl⟩
    | succ n ih =>
      intro hf
      obtain ⟨h1, h2⟩ := ih (fun j hj => hf j (by omega))
      unfold lst
      by_cases hp : p n = true
      · rw [if_pos hp]
        refine ⟨fun j hj hpj => ?_, ?_⟩
        · by_cases e : j = n
          · subst e; omega
          · have := h1 j (by omega) hpj; omega
        · by_cases e : f n ≤ lst f p n
          · exact Or.inr ⟨n, by omega, hp, by omega⟩
          · rcases h2 with h2 | ⟨j, hj, hpj, e2⟩
            · exact Or.inl (by omega)
            · exact Or.inr ⟨j, by omega, hpj, by omega⟩
      · rw [if_neg hp]
        refine ⟨fun j hj hpj => ?_, ?_⟩
        · by_cases e : j = n
          · subst e; exact absurd hpj hp
          · exact h1 j (by omega) hpj
        · rcases h2 with h2 | ⟨j, hj, hpj, e2⟩
          · exact Or.inl h2
          · exact Or.inr ⟨j, by omega, hpj, e2⟩
  have high : ∀ (n : Nat), (∀ j, j < n → 0 ≤ f j ∧ f j ≤ 9) → (∀ j, j < n → p j = true → f j ≤ mst f p n) ∧ (mst f p n = 0 ∨ ∃ j, j < n ∧ p j = true ∧ mst f p n = f j) := by
    intro n
    induction n with
    | zero => intro _; exact ⟨fun j hj => by omega, Or.inl rfl⟩
    | succ n ih =>
      intro hf
      obtain ⟨h1, h2⟩ := ih (fun j hj => hf j (by omega))
      unfold mst
      by_cases hp : p n = true
      · rw [if_pos hp]
        refine ⟨fun j hj hpj => ?_, ?_⟩
        · by_cases e : j = n
          · subst e; omega
          · have := h1 j (by omega) hpj; omega
        · by_cases e : mst f p n ≤ f n
          · exact Or.inr ⟨n, by omega, hp, by omega⟩
          · rcases h2 with h2 | ⟨j, hj, hpj, e2⟩
            · have := hf n (by omega); exact absurd (show mst f p n ≤ f n by omega) e
            · exact Or.inr ⟨j, by omega, hpj, by omega⟩
      · rw [if_neg hp]
        refine ⟨fun j hj hpj => ?_, ?_⟩
        · by_cases e : j = n
          · subst e; exact absurd hpj hp
          · exact h1 j (by omega) hpj
        · rcases h2 with h2 | ⟨j, hj, hpj, e2⟩
          · exact Or.inl h2
          · exact Or.inr ⟨j, by omega, hpj, e2⟩
  obtain ⟨l1, l2⟩ := low n hf
  obtain ⟨m1, m2⟩ := high n hf
  constructor
  · intro h
    rcases m2 with m2 | ⟨g, hg, hpg, e1⟩
    · have := lst_rg (p := p) n hf; omega
    · have hg2 := l1 g hg hpg
      rcases l2 with l2 | ⟨e, he, hpe, e2⟩
      · have := hf g hg; omega
      · rcases Nat.lt_trichotomy e g with q | q | q
        · exact ⟨g, e, q, hg, hpg, hpe, Or.inl (by omega)⟩
        · subst q; omega
        · exact ⟨e, g, q, he, hpe, hpg, Or.inr (by omega)⟩
  · rintro ⟨g, e, h1, h2, h3, h4, h5⟩
    have a1 := l1 g h2 h3
    have a2 := l1 e (by omega) h4
    have a3 := m1 g h2 h3
    have a4 := m1 e (by omega) h4
    omega
def quarP (S : Sh) (g : Int) : Nat → Bool := fun e => decide (4 ≤ tz S g 0 - tz S e 0 ∨ 4 ≤ tz S e 0 - tz S g 0)
def moodZ (S : Sh) (w b m : Int) : Int := if 4 ≤ mst (fun g => tz S g m) (fun g => memb b g) (nG S) - lst (fun g => tz S g m) (fun g => memb b g) (nG S) then S 4 w + ssum (fun g => if memb b g then tz S g m else 0) (nG S) + 3 else S 4 w + ssum (fun g => if memb b g then tz S g m else 0) (nG S)
theorem nG_eq {S : Sh} (hW : WF S) : (nG S : Int) = S 6 0 := by have := wf_n hW; unfold nG; omega
theorem nW_eq {S : Sh} (hW : WF S) : (nW S : Int) = S 6 1 := by have := wf_n hW; unfold nW; omega
theorem tz_rgn {S : Sh} (hW : WF S) {m : Int} (hm : 0 ≤ m) : ∀ j : Nat, j < nG S → 0 ≤ tz S j m ∧ tz S j m ≤ 9 := fun j hj => tz_rg hW ⟨by omega, by have := nG_eq hW; omega⟩ hm
theorem msum_rg {S : Sh} (hW : WF S) {b m : Int} (hm : 0 ≤ m) (n : Nat) (hn : n ≤ nG S) : 0 ≤ ssum (fun g => if memb b g then tz S g m else 0) n ∧ ssum (fun g => if memb b g then tz S g m else 0) n ≤ 54 := by
  have h := ssum_rg (f := fun g => if memb b (g : Int) then tz S g m else 0) (a := 0) (b := 9) (by decide) (by decide) n (fun j hj => by
    have := tz_rgn hW hm j (by omega)
    show 0 ≤ (if memb b (j : Int) then tz S j m else 0) ∧ (if memb b (j : Int) then tz S j m else 0) ≤ 9
    split <;> omega)
  have := nG_eq hW
  have := wf_n hW
  omega
theorem moodZ_rg {S : Sh} (hW : WF S) {w b m : Int} (hw : 0 ≤ w ∧ w < S 6 1) (hm : 0 ≤ m) : 0 ≤ moodZ S w b m ∧ moodZ S w b m ≤ 66 := by
  have h1 := msum_rg hW (b := b) hm (nG S) (Nat.le_refl _)
  have h2 := wf_w hW hw
  unfold moodZ
  split <;> omega
theorem band_rg (a b : Int) : -2147483648 ≤ band a b ∧ band a b ≤ 2147483647 := ⟨Int32.le_toInt _, by have := Int32.toInt_lt (Int32.ofInt a &&& Int32.ofInt b); unfold band; omega⟩
theorem bxor_rg {a b : Int} (ha : 0 ≤ a ∧ a < 64) (hb : 0 ≤ b ∧ b < 64) : 0 ≤ bxor a b ∧ bxor a b < 64 := by
  obtain ⟨x, rfl⟩ := Int.eq_ofNat_of_zero_le ha.1
  obtain ⟨y, rfl⟩ := Int.eq_ofNat_of_zero_le hb.1
  rw [bxor_nat (by omega) (by omega)]
  have := Nat.xor_lt_two_pow (x := x) (y := y) (n := 6) (by omega) (by omega)
  omega
theorem bor_rg {a b : Int} (ha : 0 ≤ a ∧ a < 64) (hb : 0 ≤ b ∧ b < 64) : 0 ≤ bor a b ∧ bor a b < 64 := by
  obtain ⟨x, rfl⟩ := Int.eq_ofNat_of_zero_le ha.1
  obtain ⟨y, rfl⟩ := Int.eq_ofNat_of_zero_le hb.1
  rw [bor_nat (by omega) (by omega)]
  have := Nat.or_lt_two_pow (x := x) (y := y) (n := 6) (by omega) (by omega)
  omega
theorem pc_rg {x : Int} : 0 ≤ pc x ∧ pc x ≤ 10 := by unfold pc; omega
theorem pc_rg6 {x : Int} (h : 0 ≤ x ∧ x < 64) : 0 ≤ pc x ∧ pc x ≤ 6 := by unfold pc; omega
theorem c_X5_quarrels {b : Nat} {S : Sh} {g : Int} {h : Hp} {Q : Int → Hp → Prop} (hb : Shb b) (hR : RC b S h) (hW : WF S) (hg : 0 ≤ g ∧ g < S 6 0) (hq : Q (bsum (quarP S g) (nG S)) h) : CJ 2 kX5_quarrels [.ref b, vi g] h Q := by
  obtain ⟨⟨hn, hw, hh, hs⟩, hG, hN, hE⟩ := id hR
  have hnn := wf_n hW
  obtain ⟨n, hn2⟩ : ∃ n : Nat, S 6 0 = n := ⟨(S 6 0).toNat, by omega⟩
  rw [show nG S = n by unfold nG; omega] at hq
  have htg := tz_rg hW hg (m := 0) (by decide)
  refine cj_of (lo := [some (.ref b), some (vi g), none, none, none, none]) mok_X5_quarrels (fun _ => rfl) (fun _ => Nat.le_of_ble_eq_true rfl) ?_
  refine xj_iconst (pc2 := 1) dX5_quarrels_0 rfl ?_
  refine xj_istore2 (pc2 := 2) dX5_quarrels_1 rfl rfl (by decide) rfl ?_
  refine xj_aload_n (pc2 := 3) dX5_quarrels_2 rfl rfl rfl ?_
  refine xj_iload_n (pc2 := 4) dX5_quarrels_3 rfl rfl rfl ?_
  refine xj_iconst (pc2 := 5) dX5_quarrels_4 rfl ?_
  refine xj_V2I (pc2 := 8) (d2 := 1) mok_X5_temper ml_X5_84 ima_yX5_temper sel_yX5_temper rfl (ks hb) dX5_quarrels_5 rfl rfl (by decide) (by decide) (Nat.le_of_ble_eq_true rfl) (fun _ => rfl) ?_
  refine c_X5_temper hb hR hW (by omega) (by omega) ?_
  refine xj_istore3 (pc2 := 9) dX5_quarrels_8 rfl rfl (by decide) rfl ?_
  refine xj_iconst (pc2 := 10) dX5_quarrels_9 rfl ?_
  refine xj_istore4 (pc2 := 12) dX5_quarrels_10 rfl (by decide) rfl ?_
  refine down (P := fun j => XJ none 2 kX5_quarrels h 12 [some (.ref b), some (vi g), some (vi (bsum (quarP S g) j)), some (vi (tz S g 0)), some (vi j), none] [] Q) (n := n) ?_ ?_
  · refine xj_iload (pc2 := 14) dX5_quarrels_12 rfl rfl ?_
    refine xj_aload_n (pc2 := 15) dX5_quarrels_14 rfl rfl rfl ?_
    refine xj_getI (pc2 := 18) (kz := 11) fok_X5_45 dX5_quarrels_15 rfl rfl (ks hb) (by decide) rfl (by first | assumption | rfl) ?_
    refine xj_cmp_ge (pc2 := 21) (tgt := 54) dX5_quarrels_18 rfl rfl (by omega) (by omega) (fun c_18 => ?_) (fun c_18 => by exfalso; omega)
    refine xj_iload_n (pc2 := 55) dX5_quarrels_54 rfl rfl rfl ?_
    refine xj_iret dX5_quarrels_55 rfl ?_
    exact hq
  · intro j hj ih
    have htj := tz_rg hW (g := (j : Int)) (m := 0) (by omega) (by decide)
    have e : (4 ≤ (if 0 ≤ tz S g 0 - tz S j 0 then tz S g 0 - tz S j 0 else -(tz S g 0 - tz S j 0))) ↔ (4 ≤ tz S g 0 - tz S j 0 ∨ 4 ≤ tz S j 0 - tz S g 0) := by split <;> omega
    have e2 : 0 ≤ (if 0 ≤ tz S g 0 - tz S j 0 then tz S g 0 - tz S j 0 else -(tz S g 0 - tz S j 0)) ∧ (if 0 ≤ tz S g 0 - tz S j 0 then tz S g 0 - tz S j 0 else -(tz S g 0 - tz S j 0)) ≤ 9 := by split <;> omega
    generalize hz : (if 0 ≤ tz S g 0 - tz S j 0 then tz S g 0 - tz S j 0 else -(tz S g 0 - tz S j 0)) = z at e e2
    refine xj_iload (pc2 := 14) dX5_quarrels_12 rfl rfl ?_
    refine xj_aload_n (pc2 := 15) dX5_quarrels_14 rfl rfl rfl ?_
    refine xj_getI (pc2 := 18) (kz := 11) fok_X5_45 dX5_quarrels_15 rfl rfl (ks hb) (by decide) rfl (by first | assumption | rfl) ?_
    refine xj_cmp_ge (pc2 := 21) (tgt := 54) dX5_quarrels_18 rfl rfl (by omega) (by omega) (fun c_18 => by exfalso; omega) (fun c_18 => ?_)
    refine xj_iload_n (pc2 := 22) dX5_quarrels_21 rfl rfl rfl ?_
    refine xj_aload_n (pc2 := 23) dX5_quarrels_22 rfl rfl rfl ?_
    refine xj_iload (pc2 := 25) dX5_quarrels_23 rfl rfl ?_
    refine xj_iconst (pc2 := 26) dX5_quarrels_25 rfl ?_
    refine xj_V2I (pc2 := 29) (d2 := 1) mok_X5_temper ml_X5_84 ima_yX5_temper sel_yX5_temper rfl (ks hb) dX5_quarrels_26 rfl rfl (by decide) (by decide) (Nat.le_of_ble_eq_true rfl) (fun _ => rfl) ?_
    refine c_X5_temper hb hR hW (by omega) (by omega) ?_
    refine xj_isub (pc2 := 30) dX5_quarrels_29 rfl ?_
    refine xj_mabs (pc2 := 33) ml_X5_88 dX5_quarrels_30 rfl rfl (by omega) (Nat.le_of_ble_eq_true rfl) ?_
    rw [hz]
    refine xj_istore5 (pc2 := 35) dX5_quarrels_33 rfl (by decide) rfl ?_
    refine xj_iload (pc2 := 37) dX5_quarrels_35 rfl rfl ?_
    refine xj_iconst (pc2 := 38) dX5_quarrels_37 rfl ?_
    refine xj_cmp_lt (pc2 := 41) (tgt := 48) dX5_quarrels_38 rfl rfl (by omega) (by omega) (fun c_38 => ?_) (fun c_38 => ?_)
    · -- 48
      rw [← bs_f (by unfold quarP; exact decide_eq_false (fun q => by have := e.mpr q; omega))] at ih
      refine xj_iinc4 (pc2 := 51) dX5_quarrels_48 rfl (by decide) rfl ?_
      refine xj_goto (tgt := 12) dX5_quarrels_51 rfl ?_
      exact xj_sub (by repeat (first | exact subL_nil | apply subL_none | apply subL_some rfl)) ih
    · -- 41
      rw [← bs_t (by unfold quarP; exact decide_eq_true (e.mp (by omega))) (by omega)] at ih
      refine xj_iload_n (pc2 := 42) dX5_quarrels_41 rfl rfl rfl ?_
      refine xj_iconst (pc2 := 43) dX5_quarrels_42 rfl ?_
      refine xj_iload (pc2 := 45) dX5_quarrels_43 rfl rfl ?_
      refine xj_ishl (pc2 := 46) dX5_quarrels_45 rfl ?_
      refine xj_ior (pc2 := 47) dX5_quarrels_46 rfl ?_
      refine xj_istore2 (pc2 := 48) dX5_quarrels_47 rfl rfl (by decide) rfl ?_
      refine xj_iinc4 (pc2 := 51) dX5_quarrels_48 rfl (by decide) rfl ?_
      refine xj_goto (tgt := 12) dX5_quarrels_51 rfl ?_
      exact xj_sub (by repeat (first | exact subL_nil | apply subL_none | apply subL_some rfl)) ih
theorem c_X5_moodWith {b : Nat} {S : Sh} {w s m : Int} {h : Hp} {Q : Int → Hp → Prop} (hb : Shb b) (hR : RC b S h) (hW : WF S) (hw0 : 0 ≤ w ∧ w < S 6 1) (hs0 : 0 ≤ s ∧ s ≤ 2147483647) (hm : 0 ≤ m ∧ m ≤ 40) (hq : Q (moodZ S w s m) h) : CJ 2 kX5_moodWith [.ref b, vi w, vi s, vi m] h Q := by
  obtain ⟨⟨hn, hw, hh, hs⟩, hG, hN, hE⟩ := id hR
  have hnn := wf_n hW
  have hww := wf_w hW hw0
  obtain ⟨n, hn2⟩ : ∃ n : Nat, S 6 0 = n := ⟨(S 6 0).toNat, by omega⟩
  have hnG : nG S = n := by unfold nG; omega
  refine cj_of (lo := [some (.ref b), some (vi w), some (vi s), some (vi m), none, none, none, none, none]) mok_X5_moodWith (fun _ => rfl) (fun _ => Nat.le_of_ble_eq_true rfl) ?_
  refine xj_aload_n (pc2 := 1) dX5_moodWith_0 rfl rfl rfl ?_
  refine xj_getR (pc2 := 4) fok_X5_27 dX5_moodWith_1 rfl rfl (ks hb) rfl ?_
  refine xj_iload_n (pc2 := 5) dX5_moodWith_4 rfl rfl rfl ?_
  refine xj_N2I (pc2 := 8) (d2 := 0) mok_X6_at mn_X5_72 sta_yX6_at dX5_moodWith_5 rfl rfl (by decide) (by decide) (Nat.le_of_ble_eq_true rfl) (fun _ => rfl) ?_
  refine c_X6_at (ks5 hb) (by omega) (by decide) (hN _ (by omega) (by omega)).1 ?_
  refine xj_istore4 (pc2 := 10) dX5_moodWith_8 rfl (by decide) rfl ?_
  refine xj_bipush (pc2 := 12) dX5_moodWith_10 rfl (by decide) ?_
  refine xj_istore5 (pc2 := 14) dX5_moodWith_12 rfl (by decide) rfl ?_
  refine xj_iconst (pc2 := 15) dX5_moodWith_14 rfl ?_
  refine xj_istore6 (pc2 := 17) dX5_moodWith_15 rfl (by decide) rfl ?_
  refine xj_iconst (pc2 := 18) dX5_moodWith_17 rfl ?_
  refine xj_istore7 (pc2 := 20) dX5_moodWith_18 rfl (by decide) rfl ?_
  rw [← Int.add_zero (S 4 w)]
  refine down (P := fun j => XJ none 2 kX5_moodWith h 20 [some (.ref b), some (vi w), some (vi s), some (vi m), some (vi (S 4 w + ssum (fun g => if memb s g then tz S g m else 0) j)), some (vi (lst (fun g => tz S g m) (fun g => memb s g) j)), some (vi (mst (fun g => tz S g m) (fun g => memb s g) j)), some (vi j), none] [] Q) (n := n) ?_ ?_
  · have hl := lst_rg (p := fun g => memb s g) n (fun j hj => tz_rgn hW hm.1 j (by omega))
    have hms := mst_rg (p := fun g => memb s g) n (fun j hj => tz_rgn hW hm.1 j (by omega))
    rw [moodZ, hnG] at hq
    refine xj_iload (pc2 := 22) dX5_moodWith_20 rfl rfl ?_
    refine xj_aload_n (pc2 := 23) dX5_moodWith_22 rfl rfl rfl ?_
    refine xj_getI (pc2 := 26) (kz := 11) fok_X5_45 dX5_moodWith_23 rfl rfl (ks hb) (by decide) rfl (by first | assumption | rfl) ?_
    refine xj_cmp_ge (pc2 := 29) (tgt := 78) dX5_moodWith_26 rfl rfl (by omega) (by omega) (fun c_26 => ?_) (fun c_26 => by exfalso; omega)
    refine xj_iload (pc2 := 80) dX5_moodWith_78 rfl rfl ?_
    refine xj_iload (pc2 := 82) dX5_moodWith_80 rfl rfl ?_
    refine xj_isub (pc2 := 83) dX5_moodWith_82 rfl ?_
    refine xj_iconst (pc2 := 84) dX5_moodWith_83 rfl ?_
    refine xj_cmp_lt (pc2 := 87) (tgt := 94) dX5_moodWith_84 rfl rfl (by omega) (by omega) (fun c_84 => ?_) (fun c_84 => ?_)
    · -- 94
      rw [if_neg (by omega)] at hq
      refine xj_iload (pc2 := 96) dX5_moodWith_94 rfl rfl ?_
      refine xj_iret dX5_moodWith_96 rfl ?_
      exact hq
    · -- 87
      rw [if_pos (by omega)] at hq
      refine xj_iload (pc2 := 89) dX5_moodWith_87 rfl rfl ?_
      refine xj_iconst (pc2 := 90) dX5_moodWith_89 rfl ?_
      refine xj_iadd (pc2 := 91) dX5_moodWith_90 rfl ?_
      refine xj_goto (tgt := 96) dX5_moodWith_91 rfl ?_
      refine xj_iret dX5_moodWith_96 rfl ?_
      exact hq
  · intro j hj ih
    have htj := tz_rg hW (g := (j : Int)) (m := m) (by omega) hm.1
    have hl := lst_rg (p := fun g => memb s g) j (fun i hi => tz_rgn hW hm.1 i (by omega))
    have hms := mst_rg (p := fun g => memb s g) j (fun i hi => tz_rgn hW hm.1 i (by omega))
    simp only [ssum, lst, mst] at ih
    refine xj_iload (pc2 := 22) dX5_moodWith_20 rfl rfl ?_
    refine xj_aload_n (pc2 := 23) dX5_moodWith_22 rfl rfl rfl ?_
    refine xj_getI (pc2 := 26) (kz := 11) fok_X5_45 dX5_moodWith_23 rfl rfl (ks hb) (by decide) rfl (by first | assumption | rfl) ?_
    refine xj_cmp_ge (pc2 := 29) (tgt := 78) dX5_moodWith_26 rfl rfl (by omega) (by omega) (fun c_26 => by exfalso; omega) (fun c_26 => ?_)
    refine xj_iload_n (pc2 := 30) dX5_moodWith_29 rfl rfl rfl ?_
    refine xj_iload (pc2 := 32) dX5_moodWith_30 rfl rfl ?_
    refine xj_N2I (pc2 := 35) (d2 := 0) mok_X6_hasBit mn_X5_93 sta_yX6_hasBit dX5_moodWith_32 rfl rfl (by decide) (by decide) (Nat.le_of_ble_eq_true rfl) (fun _ => rfl) ?_
    refine c_X6_hasBit (by omega) (by omega) ?_ ?_
    · -- X6_hasBit = 1
      intro c_32
      have hmb : memb s j = true := memb_iff.mpr c_32
      rw [if_pos hmb, if_pos hmb, if_pos hmb, ← Int.add_assoc] at ih
      refine xj_if_eq (pc2 := 38) (tgt := 72) dX5_moodWith_35 rfl rfl (by omega) (fun c_35 => absurd c_35 (by decide)) (fun c_35 => ?_)
      refine xj_aload_n (pc2 := 39) dX5_moodWith_38 rfl rfl rfl ?_
      refine xj_iload (pc2 := 41) dX5_moodWith_39 rfl rfl ?_
      refine xj_iload_n (pc2 := 42) dX5_moodWith_41 rfl rfl rfl ?_
      refine xj_V2I (pc2 := 45) (d2 := 1) mok_X5_temper ml_X5_84 ima_yX5_temper sel_yX5_temper rfl (ks hb) dX5_moodWith_42 rfl rfl (by decide) (by decide) (Nat.le_of_ble_eq_true rfl) (fun _ => rfl) ?_
      refine c_X5_temper hb hR hW (by omega) (by omega) ?_
      refine xj_istore8 (pc2 := 47) dX5_moodWith_45 rfl (by decide) rfl ?_
      refine xj_iload (pc2 := 49) dX5_moodWith_47 rfl rfl ?_
      refine xj_iload (pc2 := 51) dX5_moodWith_49 rfl rfl ?_
      refine xj_iadd (pc2 := 52) dX5_moodWith_51 rfl ?_
      refine xj_istore4 (pc2 := 54) dX5_moodWith_52 rfl (by decide) rfl ?_
      refine xj_iload (pc2 := 56) dX5_moodWith_54 rfl rfl ?_
      refine xj_iload (pc2 := 58) dX5_moodWith_56 rfl rfl ?_
      refine xj_mmin (pc2 := 61) ml_X5_97 dX5_moodWith_58 rfl rfl (by omega) (by omega) (Nat.le_of_ble_eq_true rfl) ?_
      refine xj_istore5 (pc2 := 63) dX5_moodWith_61 rfl (by decide) rfl ?_
      refine xj_iload (pc2 := 65) dX5_moodWith_63 rfl rfl ?_
      refine xj_iload (pc2 := 67) dX5_moodWith_65 rfl rfl ?_
      refine xj_mmax (pc2 := 70) ml_X5_100 dX5_moodWith_67 rfl rfl (by omega) (by omega) (Nat.le_of_ble_eq_true rfl) ?_
      refine xj_istore6 (pc2 := 72) dX5_moodWith_70 rfl (by decide) rfl ?_
      refine xj_iinc7 (pc2 := 75) dX5_moodWith_72 rfl (by decide) rfl ?_
      refine xj_goto (tgt := 20) dX5_moodWith_75 rfl ?_
      exact xj_sub (by repeat (first | exact subL_nil | apply subL_none | apply subL_some rfl)) ih
    · -- X6_hasBit = 0
      intro c_32
      have hmb : ¬ memb s j = true := fun q => c_32 (memb_iff.mp q)
      rw [if_neg hmb, if_neg hmb, if_neg hmb, Int.add_zero] at ih
      refine xj_if_eq (pc2 := 38) (tgt := 72) dX5_moodWith_35 rfl rfl (by omega) (fun c_35 => ?_) (fun c_35 => absurd c_35 (by decide))
      refine xj_iinc7 (pc2 := 75) dX5_moodWith_72 rfl (by decide) rfl ?_
      refine xj_goto (tgt := 20) dX5_moodWith_75 rfl ?_
      exact xj_sub (by repeat (first | exact subL_nil | apply subL_none | apply subL_some rfl)) ih
