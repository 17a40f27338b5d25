/-! chances: in how many parts of all -/
def wz (t : Int) : Nat → Nat → Int
  | 0, 0 => 1
  | 0, _ + 1 => 0
  | k + 1, 0 => wz t k 0 * (10 - t)
  | k + 1, a + 1 => wz t k (a + 1) * (10 - t) + wz t k a * t
theorem wz_big (t : Int) : ∀ (k a : Nat), k < a → wz t k a = 0
  | 0, 0, h => by omega
  | 0, a + 1, _ => rfl
  | k + 1, 0, h => by omega
  | k + 1, a + 1, h => by
    show wz t k (a + 1) * (10 - t) + wz t k a * t = 0
    rw [wz_big t k (a + 1) (by omega), wz_big t k a (by omega)]
    simp
theorem wz_nn {t : Int} (ht : 0 ≤ t ∧ t ≤ 10) : ∀ (k a : Nat), 0 ≤ wz t k a
  | 0, 0 => by show (0 : Int) ≤ 1; decide
  | 0, a + 1 => by show (0 : Int) ≤ 0; decide
  | k + 1, 0 => Int.mul_nonneg (wz_nn ht k 0) (by omega)
  | k + 1, a + 1 => Int.add_nonneg (Int.mul_nonneg (wz_nn ht k (a + 1)) (by omega)) (Int.mul_nonneg (wz_nn ht k a) (by omega))
theorem ssum_left (f : Nat → Int) : ∀ n, ssum f (n + 1) = f 0 + ssum (fun i => f (i + 1)) n
  | 0 => by simp [ssum]
  | n + 1 => by
    show ssum f (n + 1) + f (n + 1) = f 0 + (ssum (fun i => f (i + 1)) n + f (n + 1))
    rw [ssum_left f n]
    omega
theorem ssum_add (f g : Nat → Int) : ∀ n, ssum (fun i => f i + g i) n = ssum f n + ssum g n
  | 0 => rfl
  | n + 1 => by
    show ssum (fun i => f i + g i) n + (f n + g n) = (ssum f n + f n) + (ssum g n + g n)
    rw [ssum_add f g n]
    omega
theorem ssum_mul (c : Int) (f : Nat → Int) : ∀ n, ssum (fun i => c * f i) n = c * ssum f n
  | 0 => by simp [ssum]
  | n + 1 => by
    show ssum (fun i => c * f i) n + c * f n = c * (ssum f n + f n)
    rw [ssum_mul c f n, Int.mul_add]
def BB (t : Int) (k : Nat) (f : Nat → Int) : Int := ssum (fun a => f a * wz t k a) (k + 1)
theorem BB_succ (t : Int) (k : Nat) (f : Nat → Int) : BB t (k + 1) f = (10 - t) * BB t k f + t * BB t k (fun a => f (a + 1)) := by
  unfold BB
  rw [ssum_left (fun a => f a * wz t (k + 1) a) (k + 1)]
  have e1 : ssum (fun i => f (i + 1) * wz t (k + 1) (i + 1)) (k + 1) = (10 - t) * ssum (fun i => f (i + 1) * wz t k (i + 1)) (k + 1) + t * ssum (fun a => f (a + 1) * wz t k a) (k + 1) := by
    rw [← ssum_mul, ← ssum_mul, ← ssum_add]
    apply ssum_congr
    intro j _
    show f (j + 1) * (wz t k (j + 1) * (10 - t) + wz t k j * t) = (10 - t) * (f (j + 1) * wz t k (j + 1)) + t * (f (j + 1) * wz t k j)
    rw [Int.mul_add]
    congr 1
    · rw [← Int.mul_assoc, Int.mul_comm]
    · rw [← Int.mul_assoc, Int.mul_comm]
  have e2 : ssum (fun a => f a * wz t k a) (k + 1) = f 0 * wz t k 0 + ssum (fun i => f (i + 1) * wz t k (i + 1)) (k + 1) := by
    have := ssum_left (fun a => f a * wz t k a) (k + 1)
    rw [← this]
    show _ = ssum (fun a => f a * wz t k a) (k + 1) + f (k + 1) * wz t k (k + 1)
    rw [wz_big t k (k + 1) (by omega)]
    simp
  rw [e1, e2, Int.mul_add]
  show f 0 * (wz t k 0 * (10 - t)) + _ = _
  rw [show f 0 * (wz t k 0 * (10 - t)) = (10 - t) * (f 0 * wz t k 0) by rw [← Int.mul_assoc, Int.mul_comm]]
  dsimp only
  omega
theorem BB_one (t : Int) : ∀ k, BB t k (fun _ => 1) = 10 ^ k
  | 0 => by simp [BB, ssum, wz]
  | k + 1 => by
    rw [BB_succ, BB_one t k, Int.pow_succ, ← Int.add_mul, Int.mul_comm]
    congr 1
    omega
theorem ssum_le {f g : Nat → Int} : ∀ n, (∀ j, j < n → f j ≤ g j) → ssum f n ≤ ssum g n
  | 0, _ => Int.le_refl _
  | n + 1, h => by
    have := ssum_le n (fun j hj => h j (by omega))
    have := h n (by omega)
    show ssum f n + f n ≤ ssum g n + g n
    omega
def gcz (a b : Int) : Int := (Nat.gcd a.toNat b.toNat : Nat)
/-- Euclid with so many turns -/
def eu : Nat → Nat → Nat → Nat
  | 0, a, _ => a
  | n + 1, a, b => if b = 0 then a else eu n b (a % b)
theorem eu_gcd : ∀ (k n a b : Nat), b < 2 ^ k → 2 * k + 1 ≤ n → eu n a b = Nat.gcd a b
  | 0, n, a, b, h, hn => by
    have hb : b = 0 := by simpa using h
    subst hb
    obtain ⟨m, rfl⟩ : ∃ m, n = m + 1 := ⟨n - 1, by omega⟩
    simp [eu]
  | k + 1, n, a, b, h, hn => by
    obtain ⟨m, rfl⟩ : ∃ m, n = m + 2 := ⟨n - 2, by omega⟩
    by_cases hb : b = 0
    · subst hb; simp [eu]
    · have h1 : a % b < b := Nat.mod_lt _ (by omega)
      have e1 : eu (m + 2) a b = eu (m + 1) b (a % b) := by show (if b = 0 then a else eu (m + 1) b (a % b)) = _; rw [if_neg hb]
      rw [e1, Nat.gcd_comm a b, Nat.gcd_rec b a, Nat.gcd_comm (a % b) b]
      by_cases hc : a % b = 0
      · rw [hc]; simp [eu]
      · have e2 : eu (m + 1) b (a % b) = eu m (a % b) (b % (a % b)) := by show (if a % b = 0 then b else eu m (a % b) (b % (a % b))) = _; rw [if_neg hc]
        have h2 : b % (a % b) < 2 ^ k := by
          have h3 : b % (a % b) < a % b := Nat.mod_lt _ (by omega)
          have h4 : b % (a % b) + (a % b) ≤ b := by
            have := Nat.div_add_mod b (a % b)
            have h5 : 1 ≤ b / (a % b) := (Nat.le_div_iff_mul_le (by omega)).mpr (by omega)
            have h6 : (a % b) * 1 ≤ (a % b) * (b / (a % b)) := Nat.mul_le_mul_left _ h5
            omega
          have h7 : 2 ^ (k + 1) = 2 * 2 ^ k := by rw [Nat.pow_succ]; omega
          omega
        rw [e2, eu_gcd k m (a % b) (b % (a % b)) h2 (by omega), Nat.gcd_comm b (a % b), Nat.gcd_rec (a % b) b, Nat.gcd_comm]
theorem c_X6_commonDivisor {a b : Int} {h : Hp} {Q : Int → Hp → Prop} (ha : 0 ≤ a ∧ a ≤ 100000000) (hb : 0 ≤ b ∧ b ≤ 100000000) (hq : Q (gcz a b) h) : CJ 0 kX6_commonDivisor [vi a, vi b] h Q := by
  obtain ⟨x, rfl⟩ := Int.eq_ofNat_of_zero_le ha.1
  obtain ⟨y, rfl⟩ := Int.eq_ofNat_of_zero_le hb.1
  have hq : Q ((eu 64 x y : Nat) : Int) h := by
    rw [eu_gcd 27 64 x y (by omega) (by omega)]
    exact hq
  refine cj_of (lo := [some (vi (x : Int)), some (vi (y : Int)), none, none, none, none]) mok_X6_commonDivisor (fun _ => rfl) (fun _ => Nat.le_of_ble_eq_true rfl) ?_
  refine xj_iload_n (pc2 := 1) dX6_commonDivisor_0 rfl rfl rfl ?_
  refine xj_istore2 (pc2 := 2) dX6_commonDivisor_1 rfl rfl (by decide) rfl ?_
  refine xj_iload_n (pc2 := 3) dX6_commonDivisor_2 rfl rfl rfl ?_
  refine xj_istore3 (pc2 := 4) dX6_commonDivisor_3 rfl rfl (by decide) rfl ?_
  refine xj_iconst (pc2 := 5) dX6_commonDivisor_4 rfl ?_
  refine xj_istore4 (pc2 := 7) dX6_commonDivisor_5 rfl (by decide) rfl ?_
  refine down (P := fun j => ∀ x' y' : Nat, (x' ≤ 100000000 ∧ y' ≤ 100000000) → Q ((eu (64 - j) x' y' : Nat) : Int) h → XJ none 0 kX6_commonDivisor h 7 [some (vi x), some (vi y), some (vi x'), some (vi y'), some (vi j), none] [] Q) (n := 64) ?_ ?_ x y (by omega) hq
  · intro x' y' hr hq'
    refine xj_iload (pc2 := 9) dX6_commonDivisor_7 rfl rfl ?_
    refine xj_bipush (pc2 := 11) dX6_commonDivisor_9 rfl (by decide) ?_
    refine xj_cmp_ge (pc2 := 14) (tgt := 34) dX6_commonDivisor_11 rfl rfl (by omega) (by omega) (fun c_11 => ?_) (fun c_11 => by exfalso; omega)
    refine xj_iload_n (pc2 := 35) dX6_commonDivisor_34 rfl rfl rfl ?_
    refine xj_iret dX6_commonDivisor_35 rfl ?_
    exact hq'
  · intro j hj ih x' y' hr hq'
    rw [show 64 - j = (64 - (j + 1)) + 1 by omega, eu] at hq'
    refine xj_iload (pc2 := 9) dX6_commonDivisor_7 rfl rfl ?_
    refine xj_bipush (pc2 := 11) dX6_commonDivisor_9 rfl (by decide) ?_
    refine xj_cmp_ge (pc2 := 14) (tgt := 34) dX6_commonDivisor_11 rfl rfl (by omega) (by omega) (fun c_11 => by exfalso; omega) (fun c_11 => ?_)
    refine xj_iload_n (pc2 := 15) dX6_commonDivisor_14 rfl rfl rfl ?_
    refine xj_if_le (pc2 := 18) (tgt := 34) dX6_commonDivisor_15 rfl rfl (by omega) (fun c_15 => ?_) (fun c_15 => ?_)
    · -- 34
      rw [if_pos (by omega)] at hq'
      refine xj_iload_n (pc2 := 35) dX6_commonDivisor_34 rfl rfl rfl ?_
      refine xj_iret dX6_commonDivisor_35 rfl ?_
      exact hq'
    · -- 18
      rw [if_neg (by omega)] at hq'
      refine xj_iload_n (pc2 := 19) dX6_commonDivisor_18 rfl rfl rfl ?_
      refine xj_iload_n (pc2 := 20) dX6_commonDivisor_19 rfl rfl rfl ?_
      refine xj_irem (pc2 := 21) dX6_commonDivisor_20 rfl (by omega) (by omega) ?_
      refine xj_istore5 (pc2 := 23) dX6_commonDivisor_21 rfl (by decide) rfl ?_
      refine xj_iload_n (pc2 := 24) dX6_commonDivisor_23 rfl rfl rfl ?_
      refine xj_istore2 (pc2 := 25) dX6_commonDivisor_24 rfl rfl (by decide) rfl ?_
      refine xj_iload (pc2 := 27) dX6_commonDivisor_25 rfl rfl ?_
      refine xj_istore3 (pc2 := 28) dX6_commonDivisor_27 rfl rfl (by decide) rfl ?_
      refine xj_iinc4 (pc2 := 31) dX6_commonDivisor_28 rfl (by decide) rfl ?_
      refine xj_goto (tgt := 7) dX6_commonDivisor_31 rfl ?_
      have hm : x' % y' ≤ 100000000 := Nat.le_trans (Nat.mod_le _ _) hr.1
      exact xj_sub (by repeat (first | exact subL_nil | apply subL_none | apply subL_some rfl)) (ih y' (x' % y') ⟨hr.2, hm⟩ hq')
theorem c_X0_spread {n : Nat} {t : Int} {h : Hp} {Q : Int → Hp → Prop} (hn : n ≤ 8) (ht : 0 ≤ t ∧ t ≤ 10) (hq : ∀ h', (∀ a : Nat, a ≤ 8 → h' 113 a = wz t n a) → h' 7 1 = 10 ^ n → (∀ c k, c ≠ 7 → c ≠ 113 → h' c k = h c k) → Q 0 h') : CJ 1 kX0_spread [.ref 7, vi n, vi t] h Q := by
  refine cj_of (lo := [some (.ref 7), some (vi (n : Int)), some (vi t), none, none]) mok_X0_spread (fun _ => rfl) (fun _ => Nat.le_of_ble_eq_true rfl) ?_
  refine xj_aload_n (pc2 := 1) dX0_spread_0 rfl rfl rfl ?_
  refine xj_getRn (pc2 := 4) (c2 := 113) fok_X0_9 dX0_spread_1 rfl rfl rfl rfl rfl ?_
  refine xj_iconst (pc2 := 5) dX0_spread_4 rfl ?_
  refine xj_S2V (pc2 := 8) (d2 := 0) mok_J7_fill_53178 ml_X0_15 sta_yJ7_fill_53178 dX0_spread_5 rfl rfl (by decide) (by decide) (Nat.le_of_ble_eq_true rfl) (fun _ => rfl) ?_
  refine c_fill rfl (by decide) ?_
  refine xj_aload_n (pc2 := 9) dX0_spread_8 rfl rfl rfl ?_
  refine xj_getRn (pc2 := 12) (c2 := 113) fok_X0_9 dX0_spread_9 rfl rfl rfl rfl rfl ?_
  refine xj_iconst (pc2 := 13) dX0_spread_12 rfl ?_
  refine xj_iconst (pc2 := 14) dX0_spread_13 rfl ?_
  refine xj_N3V (pc2 := 17) (d2 := 0) mok_X6_put mn_X0_21 sta_yX6_put dX0_spread_14 rfl rfl (by decide) (by decide) (Nat.le_of_ble_eq_true rfl) (fun _ => rfl) ?_
  refine c_X6_put rfl (by omega) (by decide) ?_
  refine xj_aload_n (pc2 := 18) dX0_spread_17 rfl rfl rfl ?_
  refine xj_iconst (pc2 := 19) dX0_spread_18 rfl ?_
  refine xj_putI (pc2 := 22) (kz := 1) fok_X0_25 dX0_spread_19 rfl rfl rfl rfl rfl ?_
  refine xj_iconst (pc2 := 23) dX0_spread_22 rfl ?_
  refine xj_istore3 (pc2 := 24) dX0_spread_23 rfl rfl (by decide) rfl ?_
  refine down (P := fun j => ∀ h' : Hp, (∀ a : Nat, a ≤ 8 → h' 113 a = wz t j a) → h' 7 1 = 10 ^ j → (∀ c k, c ≠ 7 → c ≠ 113 → h' c k = h c k) → XJ none 1 kX0_spread h' 24 [some (.ref 7), some (vi n), some (vi t), some (vi ((j : Int) + 1)), none] [] Q) (n := n) ?_ ?_ _ ?_ ?_ ?_
  · intro h' f1 f2 f3
    refine xj_iload_n (pc2 := 25) dX0_spread_24 rfl rfl rfl ?_
    refine xj_iload_n (pc2 := 26) dX0_spread_25 rfl rfl rfl ?_
    refine xj_cmp_gt (pc2 := 29) (tgt := 119) dX0_spread_26 rfl rfl (by omega) (by omega) (fun c_26 => ?_) (fun c_26 => by exfalso; omega)
    refine xj_vret dX0_spread_119 rfl ?_
    exact hq _ f1 f2 f3
  · intro j hj ih h' f1 f2 f3
    refine xj_iload_n (pc2 := 25) dX0_spread_24 rfl rfl rfl ?_
    refine xj_iload_n (pc2 := 26) dX0_spread_25 rfl rfl rfl ?_
    refine xj_cmp_gt (pc2 := 29) (tgt := 119) dX0_spread_26 rfl rfl (by omega) (by omega) (fun c_26 => by exfalso; omega) (fun c_26 => ?_)
    refine xj_aload_n (pc2 := 30) dX0_spread_29 rfl rfl rfl ?_
    refine xj_dup (pc2 := 31) dX0_spread_30 rfl rfl ?_
    refine xj_getI (pc2 := 34) (kz := 1) fok_X0_25 dX0_spread_31 rfl rfl rfl (by decide) rfl f2 ?_
    refine xj_bipush (pc2 := 36) dX0_spread_34 rfl (by decide) ?_
    refine xj_imul (pc2 := 37) dX0_spread_36 rfl ?_
    refine xj_putI (pc2 := 40) (kz := 1) fok_X0_25 dX0_spread_37 rfl rfl rfl rfl rfl ?_
    refine xj_iload_n (pc2 := 41) dX0_spread_40 rfl rfl rfl ?_
    refine xj_istore4 (pc2 := 43) dX0_spread_41 rfl (by decide) rfl ?_
    have key : ∀ q : Nat, q ≤ j + 1 → ∀ h2 : Hp, (∀ a : Nat, a ≤ 8 → (a ≤ q → h2 113 a = wz t j a) ∧ (q < a → h2 113 a = wz t (j + 1) a)) → h2 7 1 = 10 ^ (j + 1) → (∀ c k, c ≠ 7 → c ≠ 113 → h2 c k = h c k) → XJ none 1 kX0_spread h2 43 [some (.ref 7), some (vi n), some (vi t), some (vi ((j : Int) + 1)), some (vi q)] [] Q := by
      intro q
      induction q with
      | zero =>
        intro hqj h2 g1 g2 g3
        have a0 : h2 113 0 = wz t j 0 := (g1 0 (by omega)).1 (by omega)
        refine xj_iload (pc2 := 45) dX0_spread_43 rfl rfl ?_
        refine xj_iconst (pc2 := 46) dX0_spread_45 rfl ?_
        refine xj_cmp_lt (pc2 := 49) (tgt := 92) dX0_spread_46 rfl rfl (by omega) (by omega) (fun c_46 => ?_) (fun c_46 => by exfalso; omega)
        refine xj_aload_n (pc2 := 93) dX0_spread_92 rfl rfl rfl ?_
        refine xj_getRn (pc2 := 96) (c2 := 113) fok_X0_9 dX0_spread_93 rfl rfl rfl rfl rfl ?_
        refine xj_iconst (pc2 := 97) dX0_spread_96 rfl ?_
        refine xj_aload_n (pc2 := 98) dX0_spread_97 rfl rfl rfl ?_
        refine xj_getRn (pc2 := 101) (c2 := 113) fok_X0_9 dX0_spread_98 rfl rfl rfl rfl rfl ?_
        refine xj_iconst (pc2 := 102) dX0_spread_101 rfl ?_
        refine xj_N2I (pc2 := 105) (d2 := 0) mok_X6_at mn_X0_29 sta_yX6_at dX0_spread_102 rfl rfl (by decide) (by decide) (Nat.le_of_ble_eq_true rfl) (fun _ => rfl) ?_
        refine c_X6_at rfl (by omega) (by decide) a0 ?_
        refine xj_bipush (pc2 := 107) dX0_spread_105 rfl (by decide) ?_
        refine xj_iload_n (pc2 := 108) dX0_spread_107 rfl rfl rfl ?_
        refine xj_isub (pc2 := 109) dX0_spread_108 rfl ?_
        refine xj_imul (pc2 := 110) dX0_spread_109 rfl ?_
        refine xj_N3V (pc2 := 113) (d2 := 0) mok_X6_put mn_X0_21 sta_yX6_put dX0_spread_110 rfl rfl (by decide) (by decide) (Nat.le_of_ble_eq_true rfl) (fun _ => rfl) ?_
        refine c_X6_put rfl (by omega) (by decide) ?_
        refine xj_iinc3 (pc2 := 116) dX0_spread_113 rfl (by decide) rfl ?_
        refine xj_goto (tgt := 24) dX0_spread_116 rfl ?_
        refine xj_sub (by repeat (first | exact subL_nil | apply subL_none | apply subL_some rfl)) (ih _ (fun a ha => ?_) ?_ ?_)
        · by_cases e : a = 0
          · subst e; exact hset_eq _ _ _ _
          · rw [hset_nk (by omega)]; exact (g1 a ha).2 (by omega)
        · rw [hset_nc (by decide)]; exact g2
        · exact fun c k h1 h2 => (hset_nc h2).trans (g3 c k h1 h2)
      | succ q ihq =>
        intro hqj h2 g1 g2 g3
        have a1 : h2 113 ((q + 1 : Nat) : Int) = wz t j (q + 1) := (g1 (q + 1) (by omega)).1 (by omega)
        have a2 : h2 113 (((q + 1 : Nat) : Int) - 1) = wz t j q := by
          rw [show (((q + 1 : Nat) : Int) - 1) = (q : Nat) by omega]
          exact (g1 q (by omega)).1 (by omega)
        refine xj_iload (pc2 := 45) dX0_spread_43 rfl rfl ?_
        refine xj_iconst (pc2 := 46) dX0_spread_45 rfl ?_
        refine xj_cmp_lt (pc2 := 49) (tgt := 92) dX0_spread_46 rfl rfl (by omega) (by omega) (fun c_46 => by exfalso; omega) (fun c_46 => ?_)
        refine xj_aload_n (pc2 := 50) dX0_spread_49 rfl rfl rfl ?_
        refine xj_getRn (pc2 := 53) (c2 := 113) fok_X0_9 dX0_spread_50 rfl rfl rfl rfl rfl ?_
        refine xj_iload (pc2 := 55) dX0_spread_53 rfl rfl ?_
        refine xj_aload_n (pc2 := 56) dX0_spread_55 rfl rfl rfl ?_
        refine xj_getRn (pc2 := 59) (c2 := 113) fok_X0_9 dX0_spread_56 rfl rfl rfl rfl rfl ?_
        refine xj_iload (pc2 := 61) dX0_spread_59 rfl rfl ?_
        refine xj_N2I (pc2 := 64) (d2 := 0) mok_X6_at mn_X0_29 sta_yX6_at dX0_spread_61 rfl rfl (by decide) (by decide) (Nat.le_of_ble_eq_true rfl) (fun _ => rfl) ?_
        refine c_X6_at rfl (by omega) (by decide) a1 ?_
        refine xj_bipush (pc2 := 66) dX0_spread_64 rfl (by decide) ?_
        refine xj_iload_n (pc2 := 67) dX0_spread_66 rfl rfl rfl ?_
        refine xj_isub (pc2 := 68) dX0_spread_67 rfl ?_
        refine xj_imul (pc2 := 69) dX0_spread_68 rfl ?_
        refine xj_aload_n (pc2 := 70) dX0_spread_69 rfl rfl rfl ?_
        refine xj_getRn (pc2 := 73) (c2 := 113) fok_X0_9 dX0_spread_70 rfl rfl rfl rfl rfl ?_
        refine xj_iload (pc2 := 75) dX0_spread_73 rfl rfl ?_
        refine xj_iconst (pc2 := 76) dX0_spread_75 rfl ?_
        refine xj_isub (pc2 := 77) dX0_spread_76 rfl ?_
        refine xj_N2I (pc2 := 80) (d2 := 0) mok_X6_at mn_X0_29 sta_yX6_at dX0_spread_77 rfl rfl (by decide) (by decide) (Nat.le_of_ble_eq_true rfl) (fun _ => rfl) ?_
        refine c_X6_at rfl (by omega) (by decide) a2 ?_
        refine xj_iload_n (pc2 := 81) dX0_spread_80 rfl rfl rfl ?_
        refine xj_imul (pc2 := 82) dX0_spread_81 rfl ?_
        refine xj_iadd (pc2 := 83) dX0_spread_82 rfl ?_
        refine xj_N3V (pc2 := 86) (d2 := 0) mok_X6_put mn_X0_21 sta_yX6_put dX0_spread_83 rfl rfl (by decide) (by decide) (Nat.le_of_ble_eq_true rfl) (fun _ => rfl) ?_
        refine c_X6_put rfl (by omega) (by decide) ?_
        refine xj_iinc4 (pc2 := 89) dX0_spread_86 rfl (by decide) rfl ?_
        refine xj_goto (tgt := 43) dX0_spread_89 rfl ?_
        rw [show ((q + 1 : Nat) : Int) + -1 = (q : Nat) by omega]
        refine ihq (by omega) _ (fun a ha => ?_) ?_ ?_
        · by_cases e : a = q + 1
          · subst e
            exact ⟨fun q2 => by omega, fun _ => hset_eq _ _ _ _⟩
          · rw [hset_nk (by omega)]
            exact ⟨fun q2 => (g1 a ha).1 (by omega), fun q2 => (g1 a ha).2 (by omega)⟩
        · rw [hset_nc (by decide)]; exact g2
        · exact fun c k h1 h2 => (hset_nc h2).trans (g3 c k h1 h2)
    refine key (j + 1) (Nat.le_refl _) _ (fun a ha => ⟨fun _ => ?_, fun q2 => ?_⟩) ?_ ?_
    · rw [hset_nc (by decide)]; exact f1 a ha
    · rw [hset_nc (by decide), f1 a ha, wz_big t j a (by omega), wz_big t (j + 1) a (by omega)]
    · rw [hset_eq, Int.pow_succ]
    · exact fun c k h1 h2 => (hset_nc h1).trans (f3 c k h1 h2)
  · intro a ha
    rw [hset_nc (by decide)]
    cases a with
    | zero => exact hset_eq _ _ _ _
    | succ a =>
      rw [hset_nk (by omega)]
      unfold hfill
      rw [if_pos ⟨rfl, by omega, by omega⟩]
      rfl
  · exact hset_eq _ _ _ _
  · intro c k h1 h2
    rw [hset_nc h1, hset_nc h2]
    unfold hfill
    rw [if_neg (fun q => h2 q.1)]
