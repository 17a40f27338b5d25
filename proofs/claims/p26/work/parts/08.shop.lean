/-! a shop of the class at a cell; the loops' rule; the plain methods of Shop -/
theorem down {P : Nat → Prop} {n : Nat} (hx : P n) (hs : ∀ j, j < n → P (j + 1) → P j) : P 0 := by
  have key : ∀ k, k ≤ n → P (n - k) := by
    intro k
    induction k with
    | zero => intro _; exact hx
    | succ k ih =>
      intro hk
      have h1 := ih (by omega)
      refine hs (n - (k + 1)) (by omega) ?_
      rw [show n - (k + 1) + 1 = n - k by omega]
      exact h1
  have := key n (Nat.le_refl n)
  rwa [Nat.sub_self] at this
def Shb (b : Nat) : Prop := b = 2 ∨ b = 3 ∨ b = 4
theorem ks {b : Nat} (hb : Shb b) : kd b = (0, 5) := by rcases hb with rfl | rfl | rfl <;> rfl
theorem ks0 {b : Nat} (hb : Shb b) : kd (ch b 0) = (1, 6) := by rcases hb with rfl | rfl | rfl <;> rfl
theorem ks1 {b : Nat} (hb : Shb b) : kd (ch b 1) = (1, 6) := by rcases hb with rfl | rfl | rfl <;> rfl
theorem ks2 {b : Nat} (hb : Shb b) : kd (ch b 2) = (1, 6) := by rcases hb with rfl | rfl | rfl <;> rfl
theorem ks3 {b : Nat} (hb : Shb b) : kd (ch b 3) = (1, 6) := by rcases hb with rfl | rfl | rfl <;> rfl
theorem ks4 {b : Nat} (hb : Shb b) : kd (ch b 4) = (1, 6) := by rcases hb with rfl | rfl | rfl <;> rfl
theorem ks5 {b : Nat} (hb : Shb b) : kd (ch b 5) = (1, 3) := by rcases hb with rfl | rfl | rfl <;> rfl
theorem ks6 {b : Nat} (hb : Shb b) : kd (ch b 6) = (1, 3) := by rcases hb with rfl | rfl | rfl <;> rfl
theorem ks7 {b : Nat} (hb : Shb b) : kd (ch b 7) = (1, 8) := by rcases hb with rfl | rfl | rfl <;> rfl
theorem ks8 {b : Nat} (hb : Shb b) : kd (ch b 8) = (1, 8) := by rcases hb with rfl | rfl | rfl <;> rfl
theorem ks9 {b : Nat} (hb : Shb b) : kd (ch b 9) = (1, 8) := by rcases hb with rfl | rfl | rfl <;> rfl
theorem ks10 {b : Nat} (hb : Shb b) : kd (ch b 10) = (1, 10) := by rcases hb with rfl | rfl | rfl <;> rfl
def hold (x : Int) : Int := if x < 0 then -1 else x / 2
def side (x : Int) : Int := if x < 0 then -1 else x % 2
def RC (b : Nat) (S : Sh) (h : Hp) : Prop := (h b 11 = S 6 0 ∧ h b 12 = S 6 1 ∧ h b 13 = S 6 2 ∧ h b 14 = S 6 3) ∧ (∀ g, 0 ≤ g → g < S 6 0 → h (ch b 0) g = S 0 g ∧ h (ch b 1) g = S 1 g ∧ h (ch b 2) g = S 2 g ∧ h (ch b 3) g = hold (S 3 g) ∧ h (ch b 4) g = side (S 3 g)) ∧ (∀ w, 0 ≤ w → w < S 6 1 → h (ch b 5) w = S 4 w ∧ h (ch b 6) w = S 5 w) ∧ (∀ i, 0 ≤ i → i < S 6 3 → h (ch b 7) i = S 7 i ∧ h (ch b 8) i = S 8 i ∧ h (ch b 9) i = S 9 i)
def WF (S : Sh) : Prop := ((S 6 0 = 0 ∧ S 6 1 = 0) ∨ (2 ≤ S 6 0 ∧ S 6 0 ≤ 6 ∧ 1 ≤ S 6 1 ∧ S 6 1 ≤ 3)) ∧ 0 ≤ S 6 2 ∧ (0 ≤ S 6 3 ∧ S 6 3 ≤ 8) ∧ (∀ g, 0 ≤ g → g < S 6 0 → (0 ≤ S 0 g ∧ S 0 g ≤ 4) ∧ (0 ≤ S 1 g ∧ S 1 g ≤ 9) ∧ (0 ≤ S 2 g ∧ S 2 g ≤ 20) ∧ (-1 ≤ S 3 g ∧ S 3 g < 2 * S 6 1)) ∧ (∀ w, 0 ≤ w → w < S 6 1 → (0 ≤ S 4 w ∧ S 4 w ≤ 9) ∧ (0 ≤ S 5 w ∧ S 5 w ≤ 2)) ∧ (∀ i, 0 ≤ i → i < S 6 3 → (0 ≤ S 7 i ∧ S 7 i < S 6 0) ∧ (0 ≤ S 8 i ∧ S 8 i ≤ 9) ∧ (0 ≤ S 9 i ∧ S 9 i ≤ 9)) ∧ (∀ g g', 0 ≤ g → g < S 6 0 → 0 ≤ g' → g' < S 6 0 → S 3 g = S 3 g' → S 3 g ≠ -1 → g = g')
theorem wf_n {S : Sh} (hW : WF S) : (0 ≤ S 6 0 ∧ S 6 0 ≤ 6) ∧ (0 ≤ S 6 1 ∧ S 6 1 ≤ 3) ∧ 0 ≤ S 6 2 ∧ (0 ≤ S 6 3 ∧ S 6 3 ≤ 8) := ⟨by rcases hW.1 with h | h <;> omega, by rcases hW.1 with h | h <;> omega, hW.2.1, hW.2.2.1⟩
theorem wf_g {S : Sh} (hW : WF S) {g : Int} (h : 0 ≤ g ∧ g < S 6 0) : (0 ≤ S 0 g ∧ S 0 g ≤ 4) ∧ (0 ≤ S 1 g ∧ S 1 g ≤ 9) ∧ (0 ≤ S 2 g ∧ S 2 g ≤ 20) ∧ (-1 ≤ S 3 g ∧ S 3 g < 2 * S 6 1) := hW.2.2.2.1 g h.1 h.2
theorem wf_w {S : Sh} (hW : WF S) {w : Int} (h : 0 ≤ w ∧ w < S 6 1) : (0 ≤ S 4 w ∧ S 4 w ≤ 9) ∧ (0 ≤ S 5 w ∧ S 5 w ≤ 2) := hW.2.2.2.2.1 w h.1 h.2
theorem wf_i {S : Sh} (hW : WF S) {i : Int} (h : 0 ≤ i ∧ i < S 6 3) : (0 ≤ S 7 i ∧ S 7 i < S 6 0) ∧ (0 ≤ S 8 i ∧ S 8 i ≤ 9) ∧ (0 ≤ S 9 i ∧ S 9 i ≤ 9) := hW.2.2.2.2.2.1 i h.1 h.2
theorem agez_rg {a : Int} (h : 0 ≤ a) : 0 ≤ agez a ∧ agez a ≤ 20 := by unfold agez; split <;> omega
theorem temperZ_rg {k m a : Int} (hm : 0 ≤ m ∧ m ≤ 9) (ha : 0 ≤ a) : 0 ≤ temperZ k m a ∧ temperZ k m a ≤ 9 := by unfold temperZ; (repeat' split) <;> omega
def tz (S : Sh) (g m : Int) : Int := temperZ (S 0 g) (S 1 g) (agez (S 2 g + m))
theorem tz_rg {S : Sh} (hW : WF S) {g m : Int} (hg : 0 ≤ g ∧ g < S 6 0) (hm : 0 ≤ m) : 0 ≤ tz S g m ∧ tz S g m ≤ 9 := by
  have h := wf_g hW hg
  exact temperZ_rg h.2.1 (agez_rg (by omega)).1
theorem hold_rg {x w : Int} (h : -1 ≤ x ∧ x < 2 * w) : -1 ≤ hold x ∧ hold x < w ∨ (hold x = -1 ∧ x = -1) := by unfold hold; split <;> omega
theorem hold_b {S : Sh} (hW : WF S) {g : Int} (hg : 0 ≤ g ∧ g < S 6 0) : -1 ≤ hold (S 3 g) ∧ hold (S 3 g) ≤ 2 := by
  have h := wf_g hW hg
  have h2 := wf_n hW
  unfold hold
  split <;> omega
theorem side_b {S : Sh} (hW : WF S) {g : Int} (hg : 0 ≤ g ∧ g < S 6 0) : -1 ≤ side (S 3 g) ∧ side (S 3 g) ≤ 1 := by
  have h := wf_g hW hg
  unfold side
  split <;> omega
theorem bs_t {p : Nat → Bool} {j : Nat} (hp : p j = true) (hj : j ≤ 30) : bor (bsum p j) (bshl 1 j) = bsum p (j + 1) := by
  rw [bor_add (bsum_nn p j) hj]
  show _ = bsum p j + if p j then 2 ^ j else 0
  rw [if_pos hp]
theorem bs_f {p : Nat → Bool} {j : Nat} (hp : p j = false) : bsum p j = bsum p (j + 1) := by
  show _ = bsum p j + if p j then 2 ^ j else 0
  rw [if_neg (by rw [hp]; decide), Int.add_zero]
def heldP (S : Sh) (x : Int) : Nat → Bool := fun g => decide (hold (S 3 g) = x)
def nG (S : Sh) : Nat := (S 6 0).toNat
def nW (S : Sh) : Nat := (S 6 1).toNat
theorem bsum_le {p : Nat → Bool} {n : Nat} (hn : n ≤ 10) : 0 ≤ bsum p n ∧ bsum p n < 1024 := by
  have h := bsum_nn p n
  have h2 : (2 : Int) ^ n ≤ 2 ^ 10 := by
    have : (2 : Nat) ^ n ≤ 2 ^ 10 := Nat.pow_le_pow_right (by decide) hn
    exact_mod_cast this
  omega
theorem bsum_le6 {p : Nat → Bool} {n : Nat} (hn : n ≤ 6) : 0 ≤ bsum p n ∧ bsum p n < 64 := by
  have h := bsum_nn p n
  have h2 : (2 : Int) ^ n ≤ 2 ^ 6 := by
    have : (2 : Nat) ^ n ≤ 2 ^ 6 := Nat.pow_le_pow_right (by decide) hn
    exact_mod_cast this
  omega
theorem c_X5_hasGlove {b : Nat} {S : Sh} {g : Int} {h : Hp} {Q : Int → Hp → Prop} (hb : Shb b) (hR : RC b S h) (hW : WF S) (hg : -2147483648 ≤ g ∧ g ≤ 2147483647) (h1 : 0 ≤ g ∧ g < S 6 0 → Q 1 h) (h0 : ¬ (0 ≤ g ∧ g < S 6 0) → Q 0 h) : CJ 0 kX5_hasGlove [.ref b, vi g] h Q := by
  obtain ⟨⟨hn, hw, hh, hs⟩, hG, hN, hE⟩ := id hR
  have hnn := wf_n hW
  refine cj_of (lo := [some (.ref b), some (vi g)]) mok_X5_hasGlove (fun _ => rfl) (fun _ => Nat.le_of_ble_eq_true rfl) ?_
  refine xj_iload_n (pc2 := 1) dX5_hasGlove_0 rfl rfl rfl ?_
  refine xj_if_lt (pc2 := 4) (tgt := 16) dX5_hasGlove_1 rfl rfl (by omega) (fun c_1 => ?_) (fun c_1 => ?_)
  · -- 16
    refine xj_iconst (pc2 := 17) dX5_hasGlove_16 rfl ?_
    refine xj_zret dX5_hasGlove_17 rfl (by decide) ?_
    first | exact h1 (by omega) | exact h0 (by omega)
  · -- 4
    refine xj_iload_n (pc2 := 5) dX5_hasGlove_4 rfl rfl rfl ?_
    refine xj_aload_n (pc2 := 6) dX5_hasGlove_5 rfl rfl rfl ?_
    refine xj_getI (pc2 := 9) (kz := 11) fok_X5_45 dX5_hasGlove_6 rfl rfl (ks hb) (by decide) rfl (by first | assumption | rfl) ?_
    refine xj_cmp_ge (pc2 := 12) (tgt := 16) dX5_hasGlove_9 rfl rfl (by omega) (by omega) (fun c_9 => ?_) (fun c_9 => ?_)
    · -- 16
      refine xj_iconst (pc2 := 17) dX5_hasGlove_16 rfl ?_
      refine xj_zret dX5_hasGlove_17 rfl (by decide) ?_
      first | exact h1 (by omega) | exact h0 (by omega)
    · -- 12
      refine xj_iconst (pc2 := 13) dX5_hasGlove_12 rfl ?_
      refine xj_goto (tgt := 17) dX5_hasGlove_13 rfl ?_
      refine xj_zret dX5_hasGlove_17 rfl (by decide) ?_
      first | exact h1 (by omega) | exact h0 (by omega)
theorem c_X5_hasWearer {b : Nat} {S : Sh} {g : Int} {h : Hp} {Q : Int → Hp → Prop} (hb : Shb b) (hR : RC b S h) (hW : WF S) (hg : -2147483648 ≤ g ∧ g ≤ 2147483647) (h1 : 0 ≤ g ∧ g < S 6 1 → Q 1 h) (h0 : ¬ (0 ≤ g ∧ g < S 6 1) → Q 0 h) : CJ 0 kX5_hasWearer [.ref b, vi g] h Q := by
  obtain ⟨⟨hn, hw, hh, hs⟩, hG, hN, hE⟩ := id hR
  have hnn := wf_n hW
  refine cj_of (lo := [some (.ref b), some (vi g)]) mok_X5_hasWearer (fun _ => rfl) (fun _ => Nat.le_of_ble_eq_true rfl) ?_
  refine xj_iload_n (pc2 := 1) dX5_hasWearer_0 rfl rfl rfl ?_
  refine xj_if_lt (pc2 := 4) (tgt := 16) dX5_hasWearer_1 rfl rfl (by omega) (fun c_1 => ?_) (fun c_1 => ?_)
  · -- 16
    refine xj_iconst (pc2 := 17) dX5_hasWearer_16 rfl ?_
    refine xj_zret dX5_hasWearer_17 rfl (by decide) ?_
    first | exact h1 (by omega) | exact h0 (by omega)
  · -- 4
    refine xj_iload_n (pc2 := 5) dX5_hasWearer_4 rfl rfl rfl ?_
    refine xj_aload_n (pc2 := 6) dX5_hasWearer_5 rfl rfl rfl ?_
    refine xj_getI (pc2 := 9) (kz := 12) fok_X5_49 dX5_hasWearer_6 rfl rfl (ks hb) (by decide) rfl (by first | assumption | rfl) ?_
    refine xj_cmp_ge (pc2 := 12) (tgt := 16) dX5_hasWearer_9 rfl rfl (by omega) (by omega) (fun c_9 => ?_) (fun c_9 => ?_)
    · -- 16
      refine xj_iconst (pc2 := 17) dX5_hasWearer_16 rfl ?_
      refine xj_zret dX5_hasWearer_17 rfl (by decide) ?_
      first | exact h1 (by omega) | exact h0 (by omega)
    · -- 12
      refine xj_iconst (pc2 := 13) dX5_hasWearer_12 rfl ?_
      refine xj_goto (tgt := 17) dX5_hasWearer_13 rfl ?_
      refine xj_zret dX5_hasWearer_17 rfl (by decide) ?_
      first | exact h1 (by omega) | exact h0 (by omega)
theorem c_X5_temper {b : Nat} {S : Sh} {g m : Int} {h : Hp} {Q : Int → Hp → Prop} (hb : Shb b) (hR : RC b S h) (hW : WF S) (hg : 0 ≤ g ∧ g < S 6 0) (hm : 0 ≤ m ∧ m ≤ 40) (hq : Q (tz S g m) h) : CJ 1 kX5_temper [.ref b, vi g, vi m] h Q := by
  obtain ⟨⟨hn, hw, hh, hs⟩, hG, hN, hE⟩ := id hR
  have hnn := wf_n hW
  have hwg := wf_g hW hg
  have hag := agez_rg (a := S 2 g + m) (by omega)
  refine cj_of (lo := [some (.ref b), some (vi g), some (vi m)]) mok_X5_temper (fun _ => rfl) (fun _ => Nat.le_of_ble_eq_true rfl) ?_
  refine xj_aload_n (pc2 := 1) dX5_temper_0 rfl rfl rfl ?_
  refine xj_getR (pc2 := 4) fok_X5_9 dX5_temper_1 rfl rfl (ks hb) rfl ?_
  refine xj_iload_n (pc2 := 5) dX5_temper_4 rfl rfl rfl ?_
  refine xj_N2I (pc2 := 8) (d2 := 0) mok_X6_at mn_X5_72 sta_yX6_at dX5_temper_5 rfl rfl (by decide) (by decide) (Nat.le_of_ble_eq_true rfl) (fun _ => rfl) ?_
  refine c_X6_at (ks0 hb) (by omega) (by decide) (hG _ (by omega) (by omega)).1 ?_
  refine xj_aload_n (pc2 := 9) dX5_temper_8 rfl rfl rfl ?_
  refine xj_getR (pc2 := 12) fok_X5_15 dX5_temper_9 rfl rfl (ks hb) rfl ?_
  refine xj_iload_n (pc2 := 13) dX5_temper_12 rfl rfl rfl ?_
  refine xj_N2I (pc2 := 16) (d2 := 0) mok_X6_at mn_X5_72 sta_yX6_at dX5_temper_13 rfl rfl (by decide) (by decide) (Nat.le_of_ble_eq_true rfl) (fun _ => rfl) ?_
  refine c_X6_at (ks1 hb) (by omega) (by decide) (hG _ (by omega) (by omega)).2.1 ?_
  refine xj_aload_n (pc2 := 17) dX5_temper_16 rfl rfl rfl ?_
  refine xj_getR (pc2 := 20) fok_X5_18 dX5_temper_17 rfl rfl (ks hb) rfl ?_
  refine xj_iload_n (pc2 := 21) dX5_temper_20 rfl rfl rfl ?_
  refine xj_N2I (pc2 := 24) (d2 := 0) mok_X6_at mn_X5_72 sta_yX6_at dX5_temper_21 rfl rfl (by decide) (by decide) (Nat.le_of_ble_eq_true rfl) (fun _ => rfl) ?_
  refine c_X6_at (ks2 hb) (by omega) (by decide) (hG _ (by omega) (by omega)).2.2.1 ?_
  refine xj_iload_n (pc2 := 25) dX5_temper_24 rfl rfl rfl ?_
  refine xj_iadd (pc2 := 26) dX5_temper_25 rfl ?_
  refine xj_N1I (pc2 := 29) (d2 := 0) mok_X6_ageOf mn_X5_76 sta_yX6_ageOf dX5_temper_26 rfl rfl (by decide) (by decide) (Nat.le_of_ble_eq_true rfl) (fun _ => rfl) ?_
  refine c_X6_ageOf (by omega) ?_
  refine xj_N3I (pc2 := 32) (d2 := 0) mok_X6_temperOf mn_X5_80 sta_yX6_temperOf dX5_temper_29 rfl rfl (by decide) (by decide) (Nat.le_of_ble_eq_true rfl) (fun _ => rfl) ?_
  refine c_X6_temperOf (by omega) (by omega) (by omega) ?_
  refine xj_iret dX5_temper_32 rfl ?_
  exact hq
theorem c_X5_heldBy {b : Nat} {S : Sh} {x : Int} {h : Hp} {Q : Int → Hp → Prop} (hb : Shb b) (hR : RC b S h) (hW : WF S) (hx : -1 ≤ x ∧ x ≤ 2) (hq : Q (bsum (heldP S x) (nG S)) h) : CJ 1 kX5_heldBy [.ref b, vi x] h Q := by
  obtain ⟨⟨hn, hw, hh, hs⟩, hG, hN, hE⟩ := id hR
  have hnn := wf_n hW
  obtain ⟨n, hn2⟩ : ∃ n : Nat, S 6 0 = n := ⟨(S 6 0).toNat, by omega⟩
  rw [show nG S = n by unfold nG; omega] at hq
  refine cj_of (lo := [some (.ref b), some (vi x), none, none]) mok_X5_heldBy (fun _ => rfl) (fun _ => Nat.le_of_ble_eq_true rfl) ?_
  refine xj_iconst (pc2 := 1) dX5_heldBy_0 rfl ?_
  refine xj_istore2 (pc2 := 2) dX5_heldBy_1 rfl rfl (by decide) rfl ?_
  refine xj_iconst (pc2 := 3) dX5_heldBy_2 rfl ?_
  refine xj_istore3 (pc2 := 4) dX5_heldBy_3 rfl rfl (by decide) rfl ?_
  refine down (P := fun j => XJ none 1 kX5_heldBy h 4 [some (.ref b), some (vi x), some (vi (bsum (heldP S x) j)), some (vi j)] [] Q) (n := n) ?_ ?_
  · refine xj_iload_n (pc2 := 5) dX5_heldBy_4 rfl rfl rfl ?_
    refine xj_aload_n (pc2 := 6) dX5_heldBy_5 rfl rfl rfl ?_
    refine xj_getI (pc2 := 9) (kz := 11) fok_X5_45 dX5_heldBy_6 rfl rfl (ks hb) (by decide) rfl (by first | assumption | rfl) ?_
    refine xj_cmp_ge (pc2 := 12) (tgt := 36) dX5_heldBy_9 rfl rfl (by omega) (by omega) (fun c_9 => ?_) (fun c_9 => by exfalso; omega)
    refine xj_iload_n (pc2 := 37) dX5_heldBy_36 rfl rfl rfl ?_
    refine xj_iret dX5_heldBy_37 rfl ?_
    exact hq
  · intro j hj ih
    try dsimp only at ih ⊢
    have hhb := hold_b hW (g := (j : Int)) (by omega)
    refine xj_iload_n (pc2 := 5) dX5_heldBy_4 rfl rfl rfl ?_
    refine xj_aload_n (pc2 := 6) dX5_heldBy_5 rfl rfl rfl ?_
    refine xj_getI (pc2 := 9) (kz := 11) fok_X5_45 dX5_heldBy_6 rfl rfl (ks hb) (by decide) rfl (by first | assumption | rfl) ?_
    refine xj_cmp_ge (pc2 := 12) (tgt := 36) dX5_heldBy_9 rfl rfl (by omega) (by omega) (fun c_9 => by exfalso; omega) (fun c_9 => ?_)
    refine xj_aload_n (pc2 := 13) dX5_heldBy_12 rfl rfl rfl ?_
    refine xj_getR (pc2 := 16) fok_X5_21 dX5_heldBy_13 rfl rfl (ks hb) rfl ?_
    refine xj_iload_n (pc2 := 17) dX5_heldBy_16 rfl rfl rfl ?_
    refine xj_N2I (pc2 := 20) (d2 := 0) mok_X6_at mn_X5_72 sta_yX6_at dX5_heldBy_17 rfl rfl (by decide) (by decide) (Nat.le_of_ble_eq_true rfl) (fun _ => rfl) ?_
    refine c_X6_at (ks3 hb) (by omega) (by decide) (hG _ (by omega) (by omega)).2.2.2.1 ?_
    refine xj_iload_n (pc2 := 21) dX5_heldBy_20 rfl rfl rfl ?_
    refine xj_cmp_ne (pc2 := 24) (tgt := 30) dX5_heldBy_21 rfl rfl (by omega) (by omega) (fun c_21 => ?_) (fun c_21 => ?_)
    · -- 30
      rw [← bs_f (by simpa [heldP] using c_21)] at ih
      refine xj_iinc3 (pc2 := 33) dX5_heldBy_30 rfl (by decide) rfl ?_
      refine xj_goto (tgt := 4) dX5_heldBy_33 rfl ?_
      exact ih
    · -- 24
      rw [← bs_t (by simpa [heldP] using c_21) (by omega)] at ih
      refine xj_iload_n (pc2 := 25) dX5_heldBy_24 rfl rfl rfl ?_
      refine xj_iconst (pc2 := 26) dX5_heldBy_25 rfl ?_
      refine xj_iload_n (pc2 := 27) dX5_heldBy_26 rfl rfl rfl ?_
      refine xj_ishl (pc2 := 28) dX5_heldBy_27 rfl ?_
      refine xj_ior (pc2 := 29) dX5_heldBy_28 rfl ?_
      refine xj_istore2 (pc2 := 30) dX5_heldBy_29 rfl rfl (by decide) rfl ?_
      refine xj_iinc3 (pc2 := 33) dX5_heldBy_30 rfl (by decide) rfl ?_
      refine xj_goto (tgt := 4) dX5_heldBy_33 rfl ?_
      exact ih
theorem c_X5_gloveOn {b : Nat} {S : Sh} {w s : Int} {h : Hp} {Q : Int → Hp → Prop} (hb : Shb b) (hR : RC b S h) (hW : WF S) (hw0 : 0 ≤ w ∧ w ≤ 2) (hs0 : 0 ≤ s ∧ s ≤ 1) (hq : ∀ v, ((v = -1 ∧ ∀ g, 0 ≤ g → g < S 6 0 → S 3 g ≠ 2 * w + s) ∨ (0 ≤ v ∧ v < S 6 0 ∧ S 3 v = 2 * w + s)) → Q v h) : CJ 1 kX5_gloveOn [.ref b, vi w, vi s] h Q := by
  obtain ⟨⟨hn, hw, hh, hs⟩, hG, hN, hE⟩ := id hR
  have hnn := wf_n hW
  obtain ⟨n, hn2⟩ : ∃ n : Nat, S 6 0 = n := ⟨(S 6 0).toNat, by omega⟩
  refine cj_of (lo := [some (.ref b), some (vi w), some (vi s), none]) mok_X5_gloveOn (fun _ => rfl) (fun _ => Nat.le_of_ble_eq_true rfl) ?_
  refine xj_iconst (pc2 := 1) dX5_gloveOn_0 rfl ?_
  refine xj_istore3 (pc2 := 2) dX5_gloveOn_1 rfl rfl (by decide) rfl ?_
  refine down (P := fun j => (∀ g, 0 ≤ g → g < (j : Int) → S 3 g ≠ 2 * w + s) → XJ none 1 kX5_gloveOn h 2 [some (.ref b), some (vi w), some (vi s), some (vi j)] [] Q) (n := n) ?_ ?_ (fun g h1 h2 => by exfalso; omega)
  · intro hall
    refine xj_iload_n (pc2 := 3) dX5_gloveOn_2 rfl rfl rfl ?_
    refine xj_aload_n (pc2 := 4) dX5_gloveOn_3 rfl rfl rfl ?_
    refine xj_getI (pc2 := 7) (kz := 11) fok_X5_45 dX5_gloveOn_4 rfl rfl (ks hb) (by decide) rfl (by first | assumption | rfl) ?_
    refine xj_cmp_ge (pc2 := 10) (tgt := 42) dX5_gloveOn_7 rfl rfl (by omega) (by omega) (fun c_7 => ?_) (fun c_7 => by exfalso; omega)
    refine xj_iconst (pc2 := 43) dX5_gloveOn_42 rfl ?_
    refine xj_iret dX5_gloveOn_43 rfl ?_
    exact hq _ (Or.inl ⟨rfl, fun g h1 h2 => hall g h1 (by omega)⟩)
  · intro j hj ih hall
    try dsimp only at ih ⊢
    have hhb := hold_b hW (g := (j : Int)) (by omega)
    have hsb := side_b hW (g := (j : Int)) (by omega)
    have hgb := wf_g hW (g := (j : Int)) (by omega)
    have hst : (S 3 j = 2 * w + s) ↔ (hold (S 3 j) = w ∧ side (S 3 j) = s) := by
      unfold hold side
      constructor
      · intro q; rw [if_neg (by omega), if_neg (by omega)]; omega
      · intro q; split at q <;> omega
    have ih := fun q => ih (fun g h1 h2 => by
      by_cases e : g = (j : Int)
      · subst e; exact q
      · exact hall g h1 (by omega))
    refine xj_iload_n (pc2 := 3) dX5_gloveOn_2 rfl rfl rfl ?_
    refine xj_aload_n (pc2 := 4) dX5_gloveOn_3 rfl rfl rfl ?_
    refine xj_getI (pc2 := 7) (kz := 11) fok_X5_45 dX5_gloveOn_4 rfl rfl (ks hb) (by decide) rfl (by first | assumption | rfl) ?_
    refine xj_cmp_ge (pc2 := 10) (tgt := 42) dX5_gloveOn_7 rfl rfl (by omega) (by omega) (fun c_7 => by exfalso; omega) (fun c_7 => ?_)
    refine xj_aload_n (pc2 := 11) dX5_gloveOn_10 rfl rfl rfl ?_
    refine xj_getR (pc2 := 14) fok_X5_21 dX5_gloveOn_11 rfl rfl (ks hb) rfl ?_
    refine xj_iload_n (pc2 := 15) dX5_gloveOn_14 rfl rfl rfl ?_
    refine xj_N2I (pc2 := 18) (d2 := 0) mok_X6_at mn_X5_72 sta_yX6_at dX5_gloveOn_15 rfl rfl (by decide) (by decide) (Nat.le_of_ble_eq_true rfl) (fun _ => rfl) ?_
    refine c_X6_at (ks3 hb) (by omega) (by decide) (hG _ (by omega) (by omega)).2.2.2.1 ?_
    refine xj_iload_n (pc2 := 19) dX5_gloveOn_18 rfl rfl rfl ?_
    refine xj_cmp_ne (pc2 := 22) (tgt := 36) dX5_gloveOn_19 rfl rfl (by omega) (by omega) (fun c_19 => ?_) (fun c_19 => ?_)
    · -- 36
      refine xj_iinc3 (pc2 := 39) dX5_gloveOn_36 rfl (by decide) rfl ?_
      refine xj_goto (tgt := 2) dX5_gloveOn_39 rfl ?_
      exact ih (fun q => by have := hst.mp q; omega)
    · -- 22
      refine xj_aload_n (pc2 := 23) dX5_gloveOn_22 rfl rfl rfl ?_
      refine xj_getR (pc2 := 26) fok_X5_24 dX5_gloveOn_23 rfl rfl (ks hb) rfl ?_
      refine xj_iload_n (pc2 := 27) dX5_gloveOn_26 rfl rfl rfl ?_
      refine xj_N2I (pc2 := 30) (d2 := 0) mok_X6_at mn_X5_72 sta_yX6_at dX5_gloveOn_27 rfl rfl (by decide) (by decide) (Nat.le_of_ble_eq_true rfl) (fun _ => rfl) ?_
      refine c_X6_at (ks4 hb) (by omega) (by decide) (hG _ (by omega) (by omega)).2.2.2.2 ?_
      refine xj_iload_n (pc2 := 31) dX5_gloveOn_30 rfl rfl rfl ?_
      refine xj_cmp_ne (pc2 := 34) (tgt := 36) dX5_gloveOn_31 rfl rfl (by omega) (by omega) (fun c_31 => ?_) (fun c_31 => ?_)
      · -- 36
        refine xj_iinc3 (pc2 := 39) dX5_gloveOn_36 rfl (by decide) rfl ?_
        refine xj_goto (tgt := 2) dX5_gloveOn_39 rfl ?_
        exact ih (fun q => by have := hst.mp q; omega)
      · -- 34
        refine xj_iload_n (pc2 := 35) dX5_gloveOn_34 rfl rfl rfl ?_
        refine xj_iret dX5_gloveOn_35 rfl ?_
        exact hq _ (Or.inr ⟨by omega, by omega, hst.mpr ⟨by omega, by omega⟩⟩)
