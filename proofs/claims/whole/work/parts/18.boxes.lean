/-! BOXES of the class -/
def mxA : Nat → Rw → Nat
  | 0, _ => 0
  | g + 1, r => max (mxA g r) (r g + 1)
theorem mxA_congr : ∀ (g : Nat) (r s : Rw), (∀ i, i < g → r i = s i) → mxA g r = mxA g s
  | 0, _, _, _ => rfl
  | g + 1, r, s, h => by
    show max (mxA g r) (r g + 1) = max (mxA g s) (s g + 1)
    rw [mxA_congr g r s (fun i hi => h i (by omega)), h g (by omega)]
theorem limB_P : LimP mxA := mxA_congr
theorem mxA_ups {r : Rw} {g v : Nat} : mxA (g + 1) (ups r g v) = max (mxA g r) (v + 1) := by
  show max (mxA g (ups r g v)) (ups r g v g + 1) = _
  rw [mxA_congr g (ups r g v) r (fun i hi => by unfold ups; rw [if_neg (by omega)])]
  unfold ups
  rw [if_pos rfl]
def qtP (S : Sh) (r : Rw) (g : Nat) : Nat → Bool := fun e => !(decide (r g = r e) && quarP S g e)
def qtR (S : Sh) (r : Rw) (n : Nat) : Bool := allb (fun g => allb (qtP S r g) g) n
theorem qtR_iff {S : Sh} {r : Rw} {n : Nat} : qtR S r n = true ↔ ∀ g e : Nat, g < n → e < g → r g = r e → quarP S g e = false := by
  unfold qtR
  rw [allb_iff]
  constructor
  · intro h g e hg he hr
    have := (allb_iff _).mp (h g hg) e he
    unfold qtP at this
    rw [decide_eq_true hr] at this
    simpa using this
  · intro h g hg
    refine (allb_iff _).mpr (fun e he => ?_)
    unfold qtP
    by_cases hr : r g = r e
    · rw [h g e hg he hr]; simp
    · simp [hr]
abbrev Ab : Type := Int × Rw
def lfB (S : Sh) (r : Rw) (a : Ab) : Ab := if (mxA (nG S) r : Int) < a.1 ∧ qtR S r (nG S) = true then ((mxA (nG S) r : Int), r) else a
def bA (S : Sh) : Ab := full (nG S) mxA (lfB S) (nG S) r0 (7, r0)
theorem fullB_ge {S : Sh} : ∀ (k : Nat) (r : Rw) (a : Ab), k ≤ nG S → a.1 ≤ mxA (nG S - k) r → full (nG S) mxA (lfB S) k r a = a
  | 0, r, a, _, h => by
    show lfB S r a = a
    unfold lfB
    rw [if_neg]
    rintro ⟨h1, -⟩
    simp only [Nat.sub_zero] at h
    omega
  | k + 1, r, a, hk, h => by
    show it _ a _ = a
    have : ∀ m, it (fun v a => full (nG S) mxA (lfB S) k (ups r (nG S - (k + 1)) v) a) a m = a := by
      intro m
      induction m with
      | zero => rfl
      | succ m ih =>
        show full (nG S) mxA (lfB S) k (ups r (nG S - (k + 1)) m) (it _ a m) = a
        rw [ih]
        apply fullB_ge k _ _ (by omega)
        rw [show nG S - k = nG S - (k + 1) + 1 by omega, mxA_ups]
        omega
    exact this _
theorem fullB_nq {S : Sh} : ∀ (k : Nat) (r : Rw) (a : Ab), k ≤ nG S → ¬ qtR S r (nG S - k) = true → full (nG S) mxA (lfB S) k r a = a
  | 0, r, a, _, h => by
    show lfB S r a = a
    unfold lfB
    rw [if_neg]
    rintro ⟨-, h1⟩
    exact h h1
  | k + 1, r, a, hk, h => by
    show it _ a _ = a
    have : ∀ m, it (fun v a => full (nG S) mxA (lfB S) k (ups r (nG S - (k + 1)) v) a) a m = a := by
      intro m
      induction m with
      | zero => rfl
      | succ m ih =>
        show full (nG S) mxA (lfB S) k (ups r (nG S - (k + 1)) m) (it _ a m) = a
        rw [ih]
        apply fullB_nq k _ _ (by omega)
        intro q
        apply h
        rw [show nG S - k = nG S - (k + 1) + 1 by omega] at q
        rw [qtR_iff] at q ⊢
        intro g e hg he hr
        refine q g e (by omega) he ?_
        unfold ups
        rw [if_neg (by omega), if_neg (by omega)]
        exact hr
    exact this _
theorem band_bs {p q : Nat → Bool} {g n : Nat} (hg : g ≤ 30) (hn : n ≤ 30) : band (bsum p g) (bsum q n) = 0 ↔ ∀ i, i < g → i < n → p i = true → q i = false := by
  have a1 := bsum_nn p g
  have a2 := bsum_nn q n
  have m1 := bsum_mem p g
  have m2 := bsum_mem q n
  have pw : ∀ m, m ≤ 30 → (2 : Nat) ^ m ≤ 2 ^ 30 := fun m hm => Nat.pow_le_pow_right (by decide) hm
  obtain ⟨x, hx⟩ := Int.eq_ofNat_of_zero_le a1.1
  obtain ⟨y, hy⟩ := Int.eq_ofNat_of_zero_le a2.1
  rw [hx] at a1 m1 ⊢
  rw [hy] at a2 m2 ⊢
  have x2 : x < 2 ^ g := by have := a1.2; exact_mod_cast this
  have y2 : y < 2 ^ n := by have := a2.2; exact_mod_cast this
  have := pw g hg
  have := pw n hn
  rw [band_nat (by omega) (by omega)]
  have t1 : ∀ (z i : Nat), Nat.testBit z i = true ↔ mem (z : Int) (i : Int) := by
    intro z i
    rw [Nat.testBit_eq_decide_div_mod_eq, decide_eq_true_iff]
    unfold mem
    rw [Int.toNat_natCast]
    constructor
    · intro h; exact_mod_cast h
    · intro h; exact_mod_cast h
  constructor
  · intro h i h1 h2 hp
    have h3 : x &&& y = 0 := by exact_mod_cast h
    have h4 : Nat.testBit (x &&& y) i = false := by rw [h3]; simp
    rw [Nat.testBit_and] at h4
    have h5 : Nat.testBit x i = true := (t1 x i).mpr ((m1 i).mpr ⟨h1, hp⟩)
    rw [h5, Bool.true_and] at h4
    cases hq : q i with
    | false => rfl
    | true =>
      have h6 : Nat.testBit y i = true := (t1 y i).mpr ((m2 i).mpr ⟨h2, hq⟩)
      rw [h6] at h4
      cases h4
  · intro h
    have : x &&& y = 0 := by
      apply Nat.eq_of_testBit_eq
      intro i
      rw [Nat.testBit_and, Nat.zero_testBit]
      cases h5 : Nat.testBit x i with
      | false => rfl
      | true =>
        obtain ⟨h6, h7⟩ := (m1 i).mp ((t1 x i).mp h5)
        cases h8 : Nat.testBit y i with
        | false => rfl
        | true =>
          obtain ⟨h9, h10⟩ := (m2 i).mp ((t1 y i).mp h8)
          rw [h i h6 h9 h7] at h10
          cases h10
    exact_mod_cast this
def inB (r : Rw) (v g : Nat) : Int := bsum (fun i => decide (r i = v)) g
theorem inB_ups {r : Rw} {w g v : Nat} : inB (ups r g v) w (g + 1) = inB r w g + if v = w then 2 ^ g else 0 := by
  unfold inB
  show bsum _ g + (if decide (ups r g v g = w) then 2 ^ g else 0) = _
  rw [bsum_congr (q := fun i => decide (r i = w)) g (fun j hj => by unfold ups; rw [if_neg (by omega)])]
  unfold ups
  rw [if_pos rfl]
  by_cases e : v = w <;> simp [e]
def HB (S : Sh) (g : Nat) (r : Rw) (a : Ab) (h : Hp) : Prop :=
  ((∀ i : Nat, i < g → h 99 i = (r i : Int)) ∧ (∀ i : Nat, nG S ≤ i → i < 6 → h 99 i = -1)) ∧
  (∀ v : Nat, v < 6 → h 98 v = inB r v g) ∧
  (∀ i : Nat, i < nG S → h 97 i = bsum (quarP S i) (nG S)) ∧
  h 6 4 = a.1 ∧ (a.1 ≤ 6 → ∀ i : Nat, i < 6 → h 100 i = if i < nG S then (a.2 i : Int) else -1) ∧
  (0 ≤ a.1 ∧ a.1 ≤ 7)
def FB (h h' : Hp) : Prop := ∀ c k, c ≠ 6 → c ≠ 98 → c ≠ 99 → c ≠ 100 → h' c k = h c k
theorem FB_rf {h : Hp} : FB h h := fun _ _ _ _ _ _ => rfl
theorem FB_tr {h h2 h3 : Hp} (a : FB h h2) (b : FB h2 h3) : FB h h3 := fun c k h1 h4 h5 h6 => (b c k h1 h4 h5 h6).trans (a c k h1 h4 h5 h6)
theorem FB_98 {h : Hp} {k v : Int} : FB h (hset h 98 k v) := fun _ _ _ h2 _ _ => hset_nc h2
theorem FB_99 {h : Hp} {k v : Int} : FB h (hset h 99 k v) := fun _ _ _ _ h3 _ => hset_nc h3
theorem c_X3_pack {S : Sh} (hW : WF S) : ∀ (k g : Nat) (r : Rw) (a : Ab) (h : Hp) (Q : Int → Hp → Prop), g + k = nG S → HB S g r a h → qtR S r g = true → mxA g r ≤ g → (∀ h', HB S g r (full (nG S) mxA (lfB S) k r a) h' → FB h h' → Q 0 h') → CJ (1 + k) kX3_pack [.ref 6, vi (nG S), vi g, vi (mxA g r)] h Q := by
  have hnn := wf_n hW
  have hng := nG_eq hW
  intro k
  induction k with
  | zero =>
    intro g r a h Q hgk hH hqt hmx hq
    obtain ⟨⟨hA1, hA2⟩, hB, hC, hD, hE, hRg⟩ := id hH
    have hg : g = nG S := by omega
    subst hg
    refine cj_of (lo := [some (.ref 6), some (vi (nG S : Int)), some (vi (nG S : Int)), some (vi (mxA (nG S) r : Int)), none, none]) mok_X3_pack (fun _ => rfl) (fun _ => Nat.le_of_ble_eq_true rfl) ?_
    refine xj_iload_n (pc2 := 1) dX3_pack_0 rfl rfl rfl ?_
    refine xj_aload_n (pc2 := 2) dX3_pack_1 rfl rfl rfl ?_
    refine xj_getI (pc2 := 5) (kz := 4) fok_X3_30 dX3_pack_2 rfl rfl rfl (by decide) rfl (by first | assumption | rfl) ?_
    refine xj_cmp_lt (pc2 := 8) (tgt := 9) dX3_pack_5 rfl rfl (by omega) (by omega) (fun c_5 => ?_) (fun c_5 => ?_)
    · -- 9
      refine xj_iload_n (pc2 := 10) dX3_pack_9 rfl rfl rfl ?_
      refine xj_iload_n (pc2 := 11) dX3_pack_10 rfl rfl rfl ?_
      refine xj_cmp_ge (pc2 := 14) (tgt := 20) dX3_pack_11 rfl rfl (by omega) (by omega) (fun c_11 => ?_) (fun c_11 => by exfalso; omega)
      refine xj_aload_n (pc2 := 21) dX3_pack_20 rfl rfl rfl ?_
      refine xj_iload_n (pc2 := 22) dX3_pack_21 rfl rfl rfl ?_
      refine xj_putI (pc2 := 25) (kz := 4) fok_X3_30 dX3_pack_22 rfl rfl rfl rfl rfl ?_
      refine xj_aload_n (pc2 := 26) dX3_pack_25 rfl rfl rfl ?_
      refine xj_getRn (pc2 := 29) (c2 := 99) fok_X3_18 dX3_pack_26 rfl rfl rfl rfl rfl ?_
      refine xj_aload_n (pc2 := 30) dX3_pack_29 rfl rfl rfl ?_
      refine xj_getRn (pc2 := 33) (c2 := 100) fok_X3_21 dX3_pack_30 rfl rfl rfl rfl rfl ?_
      refine xj_N2V (pc2 := 36) (d2 := 0) mok_X6_copyRow mn_X3_50 sta_yX6_copyRow dX3_pack_33 rfl rfl (by omega) (by decide) (Nat.le_of_ble_eq_true rfl) (fun _ => rfl) ?_
      refine c_X6_copyRow rfl rfl (by decide) (by decide) ?_
      refine xj_vret dX3_pack_36 rfl ?_
      refine hq _ ?_ (fun c k h1 h2 h3 h4 => by simp [hcopy, hset, h1, h4])
      show HB S (nG S) r (lfB S r a) _
      unfold lfB
      rw [if_pos ⟨by omega, hqt⟩]
      refine ⟨⟨fun i hi => ?_, fun i h1 h2 => ?_⟩, fun v hv => ?_, fun i hi => ?_, ?_, fun _ i hi => ?_, by dsimp only; omega⟩
      · simp [hcopy, hset, hA1 i hi]
      · simp [hcopy, hset, hA2 i h1 h2]
      · simp [hcopy, hset, hB v hv]
      · simp [hcopy, hset, hC i hi]
      · simp [hcopy, hset]
      · have i6 : (i : Int) < 6 := by omega
        by_cases e : i < nG S
        · simp [hcopy, hset, i6, e, hA1 i e]
        · simp [hcopy, hset, i6, e, hA2 i (by omega) hi]
    · -- 8
      refine xj_vret dX3_pack_8 rfl ?_
      refine hq _ ?_ FB_rf
      show HB S (nG S) r (lfB S r a) h
      unfold lfB
      rw [if_neg (by omega)]
      exact hH
  | succ k ihk =>
    intro g r a h Q hgk hH hqt hmx hq
    obtain ⟨⟨hA1, hA2⟩, hB, hC, hD, hE, hRg⟩ := id hH
    have hgn : nG S - (k + 1) = g := by omega
    have eu : ∀ v i, i < g → ups r g v i = r i := fun v i hi => by unfold ups; rw [if_neg (by omega)]
    have eg : ∀ v, ups r g v g = v := fun v => by unfold ups; rw [if_pos rfl]
    have key : ∀ (m j : Nat) (h' : Hp), j + m = mxA g r + 1 → HB S g r (it (fun v a => full (nG S) mxA (lfB S) k (ups r g v) a) a j) h' → FB h h' → XJ none (1 + (k + 1)) kX3_pack h' 40 [some (.ref 6), some (vi (nG S)), some (vi g), some (vi (mxA g r)), some (vi j), none] [] Q := by
      intro m
      induction m with
      | zero =>
        intro j h' hj hH' hF'
        refine xj_iload (pc2 := 42) dX3_pack_40 rfl rfl ?_
        refine xj_iload_n (pc2 := 43) dX3_pack_42 rfl rfl rfl ?_
        refine xj_cmp_gt (pc2 := 46) (tgt := 134) dX3_pack_43 rfl rfl (by omega) (by omega) (fun c_43 => ?_) (fun c_43 => by exfalso; omega)
        refine xj_vret dX3_pack_134 rfl ?_
        refine hq _ ?_ hF'
        show HB S g r (it (fun v a => full (nG S) mxA (lfB S) k (ups r (nG S - (k + 1)) v) a) a (mxA (nG S - (k + 1)) r + 1)) h'
        rw [hgn, show mxA g r + 1 = j by omega]
        exact hH'
      | succ m ihm =>
        intro j h' hj hH' hF'
        have hin : h' 98 j = inB r j g := hH'.2.1 j (by omega)
        have hqg : h' 97 g = bsum (quarP S g) (nG S) := hH'.2.2.1 g (by omega)
        have hbr := band_rg (inB r j g) (bsum (quarP S g) (nG S))
        have hbz : band (inB r j g) (bsum (quarP S g) (nG S)) = 0 ↔ ∀ i, i < g → i < nG S → decide (r i = j) = true → quarP S g i = false := band_bs (by omega) (by omega)
        have hqs : qtR S (ups r g j) (g + 1) = true ↔ band (inB r j g) (bsum (quarP S g) (nG S)) = 0 := by
          rw [hbz, qtR_iff]
          constructor
          · intro q i h1 h2 h3
            exact q g i (by omega) h1 (by rw [eg, eu _ _ h1]; exact (of_decide_eq_true h3).symm)
          · intro q g2 e2 h1 h2 h3
            by_cases e : g2 = g
            · subst e
              refine q e2 h2 (by omega) (decide_eq_true ?_)
              rw [eg, eu _ _ h2] at h3
              exact h3.symm
            · rw [eu _ _ (by omega), eu _ _ (by omega)] at h3
              exact qtR_iff.mp hqt g2 e2 (by omega) h2 h3
        have hbo : bor (inB r j g) (bshl 1 g) = inB (ups r g j) j (g + 1) := by
          rw [inB_ups, if_pos rfl]
          exact bor_add (bsum_nn _ g) (by omega)
        have hit : it (fun v a => full (nG S) mxA (lfB S) k (ups r g v) a) a (j + 1) = full (nG S) mxA (lfB S) k (ups r g j) (it (fun v a => full (nG S) mxA (lfB S) k (ups r g v) a) a j) := rfl
        have ih := ihm (j + 1)
        rw [hit] at ih
        generalize it (fun v a => full (nG S) mxA (lfB S) k (ups r g v) a) a j = a2 at hH' ih
        obtain ⟨⟨p1, p2⟩, p3, p4, p5, p6, p7⟩ := id hH'
        have H4 : HB S (g + 1) (ups r g j) a2 (hset (hset h' 99 g j) 98 j (inB (ups r g j) j (g + 1))) := by
          refine ⟨⟨fun i hi => ?_, fun i h1 h2 => ?_⟩, fun v hv => ?_, fun i hi => ?_, ?_, fun h0 i hi => ?_, p7⟩
          · rw [hset_nc (by decide)]
            by_cases e : i = g
            · subst e; rw [hset_eq, eg]
            · rw [hset_nk (by omega), p1 i (by omega), eu _ _ (by omega)]
          · rw [hset_nc (by decide), hset_nk (by omega), p2 i h1 h2]
          · by_cases e : v = j
            · subst e; rw [hset_eq]
            · rw [hset_nk (by omega), hset_nc (by decide), p3 v hv, inB_ups, if_neg (by omega), Int.add_zero]
          · rw [hset_nc (by decide), hset_nc (by decide), p4 i hi]
          · rw [hset_nc (by decide), hset_nc (by decide), p5]
          · rw [hset_nc (by decide), hset_nc (by decide), p6 h0 i hi]
        have F4 : FB h (hset (hset h' 99 g j) 98 j (inB (ups r g j) j (g + 1))) := FB_tr (FB_tr hF' FB_99) FB_98
        have Hb : ∀ (a' : Ab) (h5 : Hp), HB S (g + 1) (ups r g j) a' h5 → HB S g r a' (hset h5 98 j (inB r j g)) := by
          intro a' h5 hh'
          obtain ⟨⟨q1, q2⟩, q3, q4, q5, q6, q7⟩ := hh'
          refine ⟨⟨fun i hi => by rw [hset_nc (by decide), q1 i (by omega), eu _ _ hi], fun i h1 h2 => by rw [hset_nc (by decide), q2 i h1 h2]⟩, fun v hv => ?_, fun i hi => by rw [hset_nc (by decide), q4 i hi], by rw [hset_nc (by decide), q5], fun h0 i hi => by rw [hset_nc (by decide), q6 h0 i hi], q7⟩
          by_cases e : v = j
          · subst e; rw [hset_eq]
          · rw [hset_nk (by omega), q3 v hv, inB_ups, if_neg (by omega), Int.add_zero]
        refine xj_iload (pc2 := 42) dX3_pack_40 rfl rfl ?_
        refine xj_iload_n (pc2 := 43) dX3_pack_42 rfl rfl rfl ?_
        refine xj_cmp_gt (pc2 := 46) (tgt := 134) dX3_pack_43 rfl rfl (by omega) (by omega) (fun c_43 => by exfalso; omega) (fun c_43 => ?_)
        refine xj_aload_n (pc2 := 47) dX3_pack_46 rfl rfl rfl ?_
        refine xj_getRn (pc2 := 50) (c2 := 98) fok_X3_15 dX3_pack_47 rfl rfl rfl rfl rfl ?_
        refine xj_iload (pc2 := 52) dX3_pack_50 rfl rfl ?_
        refine xj_N2I (pc2 := 55) (d2 := 0) mok_X6_at mn_X3_54 sta_yX6_at dX3_pack_52 rfl rfl (by omega) (by decide) (Nat.le_of_ble_eq_true rfl) (fun _ => rfl) ?_
        refine c_X6_at rfl (by omega) (by decide) hin ?_
        refine xj_istore5 (pc2 := 57) dX3_pack_55 rfl (by decide) rfl ?_
        refine xj_iload (pc2 := 59) dX3_pack_57 rfl rfl ?_
        refine xj_aload_n (pc2 := 60) dX3_pack_59 rfl rfl rfl ?_
        refine xj_getRn (pc2 := 63) (c2 := 97) fok_X3_9 dX3_pack_60 rfl rfl rfl rfl rfl ?_
        refine xj_iload_n (pc2 := 64) dX3_pack_63 rfl rfl rfl ?_
        refine xj_N2I (pc2 := 67) (d2 := 0) mok_X6_at mn_X3_54 sta_yX6_at dX3_pack_64 rfl rfl (by omega) (by decide) (Nat.le_of_ble_eq_true rfl) (fun _ => rfl) ?_
        refine c_X6_at rfl (by omega) (by decide) hqg ?_
        refine xj_iand (pc2 := 68) dX3_pack_67 rfl ?_
        refine xj_if_ne (pc2 := 71) (tgt := 128) dX3_pack_68 rfl rfl (by omega) (fun c_68 => ?_) (fun c_68 => ?_)
        · -- 128
          rw [fullB_nq k _ _ (by omega) (by rw [show nG S - k = g + 1 by omega]; exact fun q => c_68 (hqs.mp q))] at ih
          refine xj_iinc4 (pc2 := 131) dX3_pack_128 rfl (by decide) rfl ?_
          refine xj_goto (tgt := 40) dX3_pack_131 rfl ?_
          first
          | exact xj_sub (by repeat (first | exact subL_nil | apply subL_none | apply subL_some rfl)) (ih _ (by omega) hH' hF')
          | exact xj_sub (by repeat (first | exact subL_nil | apply subL_none | apply subL_some rfl)) (ih _ (by omega) (Hb _ _ H5) (FB_tr (FB_tr F4 F5) FB_98))
        · -- 71
          refine xj_aload_n (pc2 := 72) dX3_pack_71 rfl rfl rfl ?_
          refine xj_getRn (pc2 := 75) (c2 := 99) fok_X3_18 dX3_pack_72 rfl rfl rfl rfl rfl ?_
          refine xj_iload_n (pc2 := 76) dX3_pack_75 rfl rfl rfl ?_
          refine xj_iload (pc2 := 78) dX3_pack_76 rfl rfl ?_
          refine xj_N3V (pc2 := 81) (d2 := 0) mok_X6_put mn_X3_42 sta_yX6_put dX3_pack_78 rfl rfl (by omega) (by decide) (Nat.le_of_ble_eq_true rfl) (fun _ => rfl) ?_
          refine c_X6_put rfl (by omega) (by decide) ?_
          refine xj_aload_n (pc2 := 82) dX3_pack_81 rfl rfl rfl ?_
          refine xj_getRn (pc2 := 85) (c2 := 98) fok_X3_15 dX3_pack_82 rfl rfl rfl rfl rfl ?_
          refine xj_iload (pc2 := 87) dX3_pack_85 rfl rfl ?_
          refine xj_iload (pc2 := 89) dX3_pack_87 rfl rfl ?_
          refine xj_iconst (pc2 := 90) dX3_pack_89 rfl ?_
          refine xj_iload_n (pc2 := 91) dX3_pack_90 rfl rfl rfl ?_
          refine xj_ishl (pc2 := 92) dX3_pack_91 rfl ?_
          refine xj_ior (pc2 := 93) dX3_pack_92 rfl ?_
          rw [hbo]
          refine xj_N3V (pc2 := 96) (d2 := 0) mok_X6_put mn_X3_42 sta_yX6_put dX3_pack_93 rfl rfl (by omega) (by decide) (Nat.le_of_ble_eq_true rfl) (fun _ => rfl) ?_
          refine c_X6_put rfl (by omega) (by decide) ?_
          refine xj_aload_n (pc2 := 97) dX3_pack_96 rfl rfl rfl ?_
          refine xj_iload_n (pc2 := 98) dX3_pack_97 rfl rfl rfl ?_
          refine xj_iload_n (pc2 := 99) dX3_pack_98 rfl rfl rfl ?_
          refine xj_iconst (pc2 := 100) dX3_pack_99 rfl ?_
          refine xj_iadd (pc2 := 101) dX3_pack_100 rfl ?_
          refine xj_iload (pc2 := 103) dX3_pack_101 rfl rfl ?_
          refine xj_iload_n (pc2 := 104) dX3_pack_103 rfl rfl rfl ?_
          refine xj_cmp_ne (pc2 := 107) (tgt := 113) dX3_pack_104 rfl rfl (by omega) (by omega) (fun c_104 => ?_) (fun c_104 => ?_)
          · -- 113
            refine xj_iload_n (pc2 := 114) dX3_pack_113 rfl rfl rfl ?_
            refine xj_S4V (pc2 := 117) (d2 := (1 + k)) mok_X3_pack ml_X3_46 sta_yX3_pack dX3_pack_114 rfl rfl (by omega) (by decide) (Nat.le_of_ble_eq_true rfl) (fun _ => rfl) ?_
            first
            | rw [show (mxA g r : Int) + 1 = (mxA (g + 1) (ups r g j) : Nat) by rw [mxA_ups]; omega]
            | rw [show vi (mxA g r : Int) = vi ((mxA (g + 1) (ups r g j) : Nat) : Int) by rw [mxA_ups, show max (mxA g r) (j + 1) = mxA g r by omega]]
            refine ihk (g + 1) (ups r g j) a2 _ _ (by omega) H4 (hqs.mpr c_68) (by rw [mxA_ups]; omega) ?_
            intro h5 H5 F5
            try rw [show vi ((mxA (g + 1) (ups r g j) : Nat) : Int) = vi (mxA g r : Int) by rw [mxA_ups, show max (mxA g r) (j + 1) = mxA g r by omega]]
            refine xj_aload_n (pc2 := 118) dX3_pack_117 rfl rfl rfl ?_
            refine xj_getRn (pc2 := 121) (c2 := 98) fok_X3_15 dX3_pack_118 rfl rfl rfl rfl rfl ?_
            refine xj_iload (pc2 := 123) dX3_pack_121 rfl rfl ?_
            refine xj_iload (pc2 := 125) dX3_pack_123 rfl rfl ?_
            refine xj_N3V (pc2 := 128) (d2 := 0) mok_X6_put mn_X3_42 sta_yX6_put dX3_pack_125 rfl rfl (by omega) (by decide) (Nat.le_of_ble_eq_true rfl) (fun _ => rfl) ?_
            refine c_X6_put rfl (by omega) (by decide) ?_
            refine xj_iinc4 (pc2 := 131) dX3_pack_128 rfl (by decide) rfl ?_
            refine xj_goto (tgt := 40) dX3_pack_131 rfl ?_
            first
            | exact xj_sub (by repeat (first | exact subL_nil | apply subL_none | apply subL_some rfl)) (ih _ (by omega) hH' hF')
            | exact xj_sub (by repeat (first | exact subL_nil | apply subL_none | apply subL_some rfl)) (ih _ (by omega) (Hb _ _ H5) (FB_tr (FB_tr F4 F5) FB_98))
          · -- 107
            refine xj_iload_n (pc2 := 108) dX3_pack_107 rfl rfl rfl ?_
            refine xj_iconst (pc2 := 109) dX3_pack_108 rfl ?_
            refine xj_iadd (pc2 := 110) dX3_pack_109 rfl ?_
            refine xj_goto (tgt := 114) dX3_pack_110 rfl ?_
            refine xj_S4V (pc2 := 117) (d2 := (1 + k)) mok_X3_pack ml_X3_46 sta_yX3_pack dX3_pack_114 rfl rfl (by omega) (by decide) (Nat.le_of_ble_eq_true rfl) (fun _ => rfl) ?_
            first
            | rw [show (mxA g r : Int) + 1 = (mxA (g + 1) (ups r g j) : Nat) by rw [mxA_ups]; omega]
            | rw [show vi (mxA g r : Int) = vi ((mxA (g + 1) (ups r g j) : Nat) : Int) by rw [mxA_ups, show max (mxA g r) (j + 1) = mxA g r by omega]]
            refine ihk (g + 1) (ups r g j) a2 _ _ (by omega) H4 (hqs.mpr c_68) (by rw [mxA_ups]; omega) ?_
            intro h5 H5 F5
            try rw [show vi ((mxA (g + 1) (ups r g j) : Nat) : Int) = vi (mxA g r : Int) by rw [mxA_ups, show max (mxA g r) (j + 1) = mxA g r by omega]]
            refine xj_aload_n (pc2 := 118) dX3_pack_117 rfl rfl rfl ?_
            refine xj_getRn (pc2 := 121) (c2 := 98) fok_X3_15 dX3_pack_118 rfl rfl rfl rfl rfl ?_
            refine xj_iload (pc2 := 123) dX3_pack_121 rfl rfl ?_
            refine xj_iload (pc2 := 125) dX3_pack_123 rfl rfl ?_
            refine xj_N3V (pc2 := 128) (d2 := 0) mok_X6_put mn_X3_42 sta_yX6_put dX3_pack_125 rfl rfl (by omega) (by decide) (Nat.le_of_ble_eq_true rfl) (fun _ => rfl) ?_
            refine c_X6_put rfl (by omega) (by decide) ?_
            refine xj_iinc4 (pc2 := 131) dX3_pack_128 rfl (by decide) rfl ?_
            refine xj_goto (tgt := 40) dX3_pack_131 rfl ?_
            first
            | exact xj_sub (by repeat (first | exact subL_nil | apply subL_none | apply subL_some rfl)) (ih _ (by omega) hH' hF')
            | exact xj_sub (by repeat (first | exact subL_nil | apply subL_none | apply subL_some rfl)) (ih _ (by omega) (Hb _ _ H5) (FB_tr (FB_tr F4 F5) FB_98))
    refine cj_of (lo := [some (.ref 6), some (vi (nG S : Int)), some (vi (g : Int)), some (vi (mxA g r : Int)), none, none]) mok_X3_pack (fun _ => rfl) (fun _ => Nat.le_of_ble_eq_true rfl) ?_
    refine xj_iload_n (pc2 := 1) dX3_pack_0 rfl rfl rfl ?_
    refine xj_aload_n (pc2 := 2) dX3_pack_1 rfl rfl rfl ?_
    refine xj_getI (pc2 := 5) (kz := 4) fok_X3_30 dX3_pack_2 rfl rfl rfl (by decide) rfl (by first | assumption | rfl) ?_
    refine xj_cmp_lt (pc2 := 8) (tgt := 9) dX3_pack_5 rfl rfl (by omega) (by omega) (fun c_5 => ?_) (fun c_5 => ?_)
    · -- 9
      refine xj_iload_n (pc2 := 10) dX3_pack_9 rfl rfl rfl ?_
      refine xj_iload_n (pc2 := 11) dX3_pack_10 rfl rfl rfl ?_
      refine xj_cmp_ge (pc2 := 14) (tgt := 20) dX3_pack_11 rfl rfl (by omega) (by omega) (fun c_11 => by exfalso; omega) (fun c_11 => ?_)
      refine xj_iload_n (pc2 := 15) dX3_pack_14 rfl rfl rfl ?_
      refine xj_bipush (pc2 := 17) dX3_pack_15 rfl (by decide) ?_
      refine xj_cmp_lt (pc2 := 20) (tgt := 37) dX3_pack_17 rfl rfl (by omega) (by omega) (fun c_17 => ?_) (fun c_17 => by exfalso; omega)
      refine xj_iconst (pc2 := 38) dX3_pack_37 rfl ?_
      refine xj_istore4 (pc2 := 40) dX3_pack_38 rfl (by decide) rfl ?_
      exact key (mxA g r + 1) 0 h (by omega) hH FB_rf
    · -- 8
      refine xj_vret dX3_pack_8 rfl ?_
      refine hq _ ?_ FB_rf
      rw [fullB_ge (k + 1) r a (by omega) (by rw [hgn]; omega)]
      exact hH
