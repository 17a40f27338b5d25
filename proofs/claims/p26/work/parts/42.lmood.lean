/-! the law's moods: pairs that quarrel, of two gloves at most -/
def qzB (S : Sh) (m : Int) (a e : Nat) : Bool := decide (4 ≤ tz S a m - tz S e m ∨ 4 ≤ tz S e m - tz S a m)
theorem qzB_iff (S : Sh) (m : Int) (a e : Nat) : qzB S m a e = true ↔ QZ S a e m := by unfold qzB QZ; exact decide_eq_true_iff
def prS (S : Sh) (b m : Int) (a : Nat) : Nat → Int := fun e => if memb b a = true ∧ memb b e = true ∧ qzB S m a e = true then 3 else 0
def mdF (S : Sh) (b m : Int) : Nat → Int := fun a => (if memb b a = true then tz S a m else 0) + ssum (prS S b m a) a
theorem pr_t {S : Sh} {b m : Int} {a e : Nat} (h1 : memb b a = true ∧ memb b e = true) (h2 : QZ S a e m) : prS S b m a e = 3 := if_pos ⟨h1.1, h1.2, (qzB_iff S m a e).mpr h2⟩
theorem pr_f1 {S : Sh} {b m : Int} {a e : Nat} (h1 : ¬ (memb b a = true ∧ memb b e = true)) : prS S b m a e = 0 := if_neg (fun q => h1 ⟨q.1, q.2.1⟩)
theorem pr_f2 {S : Sh} {b m : Int} {a e : Nat} (h2 : ¬ QZ S a e m) : prS S b m a e = 0 := if_neg (fun q => h2 ((qzB_iff S m a e).mp q.2.2))
theorem ssum_s (f : Nat → Int) (j : Nat) : ssum f (j + 1) = ssum f j + f j := rfl
theorem ssum_0 {f : Nat → Int} : ∀ n, (∀ j, j < n → f j = 0) → ssum f n = 0
  | 0, _ => rfl
  | n + 1, h => by rw [ssum_s, ssum_0 n (fun j hj => h j (by omega)), h n (by omega)]; rfl
theorem ssum_1 {f : Nat → Int} {i : Nat} : ∀ n, i < n → (∀ j, j < n → j ≠ i → f j = 0) → ssum f n = f i
  | 0, h, _ => by omega
  | n + 1, hi, h => by
    rw [ssum_s]
    by_cases e : i = n
    · subst e
      rw [ssum_0 i (fun j hj => h j (by omega) (by omega))]
      omega
    · rw [ssum_1 n (by omega) (fun j hj hn => h j (by omega) hn), h n (by omega) (fun q => e q.symm)]
      omega
theorem ssum_add {f g : Nat → Int} : ∀ n, ssum (fun j => f j + g j) n = ssum f n + ssum g n
  | 0 => rfl
  | n + 1 => by rw [ssum_s, ssum_s, ssum_s, ssum_add n]; omega
def psZ (S : Sh) (b m : Int) : Nat → Int := ssum (fun a => ssum (prS S b m a) a)
theorem lst_s {f : Nat → Int} {p : Nat → Bool} {j : Nat} : lst f p (j + 1) = if p j then min (lst f p j) (f j) else lst f p j := rfl
theorem mst_s {f : Nat → Int} {p : Nat → Bool} {j : Nat} : mst f p (j + 1) = if p j then max (mst f p j) (f j) else mst f p j := rfl
theorem pair_inv {S : Sh} {b m : Int} {N : Nat} (ht : ∀ j : Nat, j < N → 0 ≤ tz S j m ∧ tz S j m ≤ 9) (h3 : ∀ i j k : Nat, i < j → j < k → k < N → memb b i = true → memb b j = true → memb b k = true → False) : ∀ n, n ≤ N →
    ((∀ i : Nat, i < n → memb b i = false) ∧ lst (fun g => tz S g m) (fun g => memb b g) n = 9 ∧ mst (fun g => tz S g m) (fun g => memb b g) n = 0 ∧ psZ S b m n = 0) ∨
    (∃ i : Nat, i < n ∧ memb b i = true ∧ (∀ j : Nat, j < n → j ≠ i → memb b j = false) ∧ lst (fun g => tz S g m) (fun g => memb b g) n = tz S i m ∧ mst (fun g => tz S g m) (fun g => memb b g) n = tz S i m ∧ psZ S b m n = 0) ∨
    (∃ i j : Nat, i < j ∧ j < n ∧ memb b i = true ∧ memb b j = true ∧ lst (fun g => tz S g m) (fun g => memb b g) n = min (tz S i m) (tz S j m) ∧ mst (fun g => tz S g m) (fun g => memb b g) n = max (tz S i m) (tz S j m) ∧ psZ S b m n = if qzB S m j i = true then 3 else 0) := by
  intro n
  induction n with
  | zero => intro _; exact Or.inl ⟨fun i hi => by omega, rfl, rfl, rfl⟩
  | succ n ih =>
    intro hn
    have ih := ih (by omega)
    have htn := ht n (by omega)
    have ps : psZ S b m (n + 1) = psZ S b m n + ssum (prS S b m n) n := rfl
    cases hp : memb b (n : Int) with
    | false =>
      have z : ssum (prS S b m n) n = 0 := ssum_0 n (fun j hj => pr_f1 (fun q => by rw [hp] at q; exact absurd q.1 (by decide)))
      rw [lst_s, mst_s, ps, z, Int.add_zero, hp]
      rcases ih with ⟨a1, a2, a3, a4⟩ | ⟨i, a1, a2, a3, a4, a5, a6⟩ | ⟨i, j, a1, a2, a3, a4, a5, a6, a7⟩
      · refine Or.inl ⟨fun i hi => ?_, a2, a3, a4⟩
        by_cases e : i = n
        · subst e; exact hp
        · exact a1 i (by omega)
      · refine Or.inr (Or.inl ⟨i, by omega, a2, fun j hj hne => ?_, a4, a5, a6⟩)
        by_cases e : j = n
        · subst e; exact hp
        · exact a3 j (by omega) hne
      · exact Or.inr (Or.inr ⟨i, j, a1, by omega, a3, a4, a5, a6, a7⟩)
    | true =>
      rw [lst_s, mst_s, ps, hp, if_pos rfl, if_pos rfl]
      rcases ih with ⟨a1, a2, a3, a4⟩ | ⟨i, a1, a2, a3, a4, a5, a6⟩ | ⟨i, j, a1, a2, a3, a4, a5, a6, a7⟩
      · have z : ssum (prS S b m n) n = 0 := ssum_0 n (fun j hj => pr_f1 (fun q => by rw [a1 j hj] at q; exact absurd q.2 (by decide)))
        refine Or.inr (Or.inl ⟨n, by omega, hp, fun j hj hne => a1 j (by omega), ?_, ?_, ?_⟩)
        · rw [a2]; omega
        · rw [a3]; omega
        · rw [a4, z]; rfl
      · have z : ssum (prS S b m n) n = prS S b m n i := ssum_1 n a1 (fun j hj hne => pr_f1 (fun q => by rw [a3 j hj hne] at q; exact absurd q.2 (by decide)))
        refine Or.inr (Or.inr ⟨i, n, a1, by omega, a2, hp, by rw [a4], by rw [a5], ?_⟩)
        rw [a6, z, Int.zero_add]
        by_cases e : qzB S m n i = true
        · rw [if_pos e]; exact pr_t ⟨hp, a2⟩ ((qzB_iff S m n i).mp e)
        · rw [if_neg e]; exact pr_f2 (fun q => e ((qzB_iff S m n i).mpr q))
      · exact absurd (h3 i j n a1 a2 (by omega) a3 a4 hp) (fun q => q)
theorem memb_bs {p : Nat → Bool} {n g : Nat} : memb (bsum p n) g = true ↔ (g < n ∧ p g = true) := by
  rw [memb_iff]
  exact bsum_mem p n g
theorem held_2 {S : Sh} {w : Int} {g : Nat} (hw : 0 ≤ w) (h : heldP S w g = true) : (S 3 g = 2 * w ∨ S 3 g = 2 * w + 1) := by
  have h := of_decide_eq_true h
  unfold hold at h
  split at h <;> omega
theorem mood_pairs {S : Sh} (hW : WF S) {w m : Int} (hw : 0 ≤ w ∧ w < S 6 1) (hm : 0 ≤ m) : S 4 w + ssum (mdF S (bsum (heldP S w) (nG S)) m) (nG S) = moodZ S w (bsum (heldP S w) (nG S)) m := by
  have hng := nG_eq hW
  have inj := hW.2.2.2.2.2.2
  have h3 : ∀ i j k : Nat, i < j → j < k → k < nG S → memb (bsum (heldP S w) (nG S)) i = true → memb (bsum (heldP S w) (nG S)) j = true → memb (bsum (heldP S w) (nG S)) k = true → False := by
    intro i j k h1 h2 h3 m1 m2 m3
    have a1 := held_2 hw.1 (memb_bs.mp m1).2
    have a2 := held_2 hw.1 (memb_bs.mp m2).2
    have a3 := held_2 hw.1 (memb_bs.mp m3).2
    have b1 := inj i j (by omega) (by omega) (by omega) (by omega)
    have b2 := inj i k (by omega) (by omega) (by omega) (by omega)
    have b3 := inj j k (by omega) (by omega) (by omega) (by omega)
    have c1 : S 3 i ≠ S 3 j := fun q => by have := b1 q (by omega); omega
    have c2 : S 3 i ≠ S 3 k := fun q => by have := b2 q (by omega); omega
    have c3 : S 3 j ≠ S 3 k := fun q => by have := b3 q (by omega); omega
    omega
  have key := pair_inv (b := bsum (heldP S w) (nG S)) (tz_rgn hW hm) h3 (nG S) (Nat.le_refl _)
  have e : ssum (mdF S (bsum (heldP S w) (nG S)) m) (nG S) = ssum (fun g => if memb (bsum (heldP S w) (nG S)) g then tz S g m else 0) (nG S) + psZ S (bsum (heldP S w) (nG S)) m (nG S) := ssum_add (nG S)
  rw [e]
  unfold moodZ
  generalize psZ S (bsum (heldP S w) (nG S)) m (nG S) = z at key ⊢
  generalize ssum (fun g => if memb (bsum (heldP S w) (nG S)) g then tz S g m else 0) (nG S) = y at key ⊢
  generalize lst (fun g => tz S g m) (fun g => memb (bsum (heldP S w) (nG S)) g) (nG S) = l1 at key ⊢
  generalize mst (fun g => tz S g m) (fun g => memb (bsum (heldP S w) (nG S)) g) (nG S) = m1 at key ⊢
  rcases key with ⟨a1, a2, a3, a4⟩ | ⟨i, a1, a2, a3, a4, a5, a6⟩ | ⟨i, j, a1, a2, a3, a4, a5, a6, a7⟩
  · rw [if_neg (by omega)]; omega
  · rw [if_neg (by omega)]; omega
  · have q := qzB_iff S m j i
    unfold QZ at q
    split at a7
    · rename_i e
      have := q.mp e
      rw [if_pos (by omega)]; omega
    · rename_i e
      have : ¬ (4 ≤ tz S j m - tz S i m ∨ 4 ≤ tz S i m - tz S j m) := fun z => e (q.mpr z)
      rw [if_neg (by omega)]; omega
theorem c_L_mood0 {c : Nat} {S : Sh} {v b m : Int} {h : Hp} {Q : Int → Hp → Prop} (hk : kd c = (1, 39)) (hL : RW c S h) (hW : WF S) (hb : 0 ≤ b ∧ b ≤ 2147483647) (hm : 0 ≤ m ∧ m ≤ 40) (hq : Q (v + ssum (mdF S b m) (nG S)) h) : CJ 3 kL_mood [.ref c, vi v, vi b, vi m] h Q := by
  obtain ⟨⟨hn, hw⟩, hG, hN⟩ := id hL
  have hnn := wf_n hW
  have hng := nG_eq hW
  refine cj_of (lo := [some (.ref c), some (vi v), some (vi b), some (vi m), none, none, none]) mok_L_mood (fun _ => rfl) (fun _ => Nat.le_of_ble_eq_true rfl) ?_
  refine xj_iload_n (pc2 := 1) dL_mood_0 rfl rfl rfl ?_
  refine xj_istore4 (pc2 := 3) dL_mood_1 rfl (by decide) rfl ?_
  refine xj_iconst (pc2 := 4) dL_mood_3 rfl ?_
  refine xj_istore5 (pc2 := 6) dL_mood_4 rfl (by decide) rfl ?_
  refine down (P := fun j => ∀ s, s = v + ssum (mdF S b m) j → XJ none 3 kL_mood h 6 [some (.ref c), some (vi v), some (vi b), some (vi m), some (vi s), some (vi j), none] [] Q) (n := nG S) ?_ ?_ v (by simp [ssum])
  · intro s hs
    refine xj_iload (pc2 := 8) dL_mood_6 rfl rfl ?_
    refine xj_aload_n (pc2 := 9) dL_mood_8 rfl rfl rfl ?_
    refine xj_iconst (pc2 := 10) dL_mood_9 rfl ?_
    refine xj_iald (pc2 := 11) dL_mood_10 rfl hk (by omega) (by omega) hn ?_
    refine xj_cmp_ge (pc2 := 14) (tgt := 99) dL_mood_11 rfl rfl (by omega) (by omega) (fun c_11 => ?_) (fun c_11 => by exfalso; omega)
    refine xj_iload (pc2 := 101) dL_mood_99 rfl rfl ?_
    refine xj_iret dL_mood_101 rfl ?_
    exact q_eq hs hq
  · intro j hj ih s hs
    have hg : 0 ≤ (j : Int) ∧ (j : Int) < S 6 0 := by omega
    have hbr := band_rg (bshr b (j : Int)) 1
    have inner : ∀ s1, s1 = s + (if memb b j = true then tz S j m else 0) → XJ none 3 kL_mood h 43 [some (.ref c), some (vi v), some (vi b), some (vi m), some (vi s1), some (vi j), some (vi 0)] [] Q := by
      intro s1 hs1
      refine down (P := fun i => ∀ t, t = s1 + ssum (prS S b m j) i → XJ none 3 kL_mood h 43 [some (.ref c), some (vi v), some (vi b), some (vi m), some (vi t), some (vi j), some (vi i)] [] Q) (n := j) ?_ ?_ s1 (by simp [ssum])
      · intro t ht
        have e : t = v + ssum (mdF S b m) (j + 1) := by rw [ssum_s, ht, hs1, hs]; unfold mdF; omega
        refine xj_iload (pc2 := 45) dL_mood_43 rfl rfl ?_
        refine xj_iload (pc2 := 47) dL_mood_45 rfl rfl ?_
        refine xj_cmp_ge (pc2 := 50) (tgt := 93) dL_mood_47 rfl rfl (by omega) (by omega) (fun c_47 => ?_) (fun c_47 => by exfalso; omega)
        refine xj_iinc5 (pc2 := 96) dL_mood_93 rfl (by decide) rfl ?_
        refine xj_goto (tgt := 6) dL_mood_96 rfl ?_
        exact xj_sub (by repeat (first | exact subL_nil | apply subL_none | apply subL_some rfl)) (ih t e)
      · intro i hi ih2 t ht
        have hbr2 := band_rg (band (bshr b (j : Int)) (bshr b (i : Int))) 1
        have hm2 := mt2 (b := b) (i := j) (j := i) hb (by omega) (by omega)
        refine xj_iload (pc2 := 45) dL_mood_43 rfl rfl ?_
        refine xj_iload (pc2 := 47) dL_mood_45 rfl rfl ?_
        refine xj_cmp_ge (pc2 := 50) (tgt := 93) dL_mood_47 rfl rfl (by omega) (by omega) (fun c_47 => by exfalso; omega) (fun c_47 => ?_)
        refine xj_iload (pc2 := 52) dL_mood_50 rfl rfl ?_
        refine xj_iload_n (pc2 := 53) dL_mood_52 rfl rfl rfl ?_
        refine xj_iload (pc2 := 55) dL_mood_53 rfl rfl ?_
        refine xj_ishr (pc2 := 56) dL_mood_55 rfl ?_
        refine xj_iload_n (pc2 := 57) dL_mood_56 rfl rfl rfl ?_
        refine xj_iload (pc2 := 59) dL_mood_57 rfl rfl ?_
        refine xj_ishr (pc2 := 60) dL_mood_59 rfl ?_
        refine xj_iand (pc2 := 61) dL_mood_60 rfl ?_
        refine xj_iconst (pc2 := 62) dL_mood_61 rfl ?_
        refine xj_iand (pc2 := 63) dL_mood_62 rfl ?_
        refine xj_iconst (pc2 := 64) dL_mood_63 rfl ?_
        refine xj_cmp_ne (pc2 := 67) (tgt := 83) dL_mood_64 rfl rfl (by omega) (by omega) (fun c_64 => ?_) (fun c_64 => ?_)
        · -- 83
          refine xj_iconst (pc2 := 84) dL_mood_83 rfl ?_
          refine xj_iadd (pc2 := 85) dL_mood_84 rfl ?_
          refine xj_istore4 (pc2 := 87) dL_mood_85 rfl (by decide) rfl ?_
          refine xj_iinc6 (pc2 := 90) dL_mood_87 rfl (by decide) rfl ?_
          refine xj_goto (tgt := 43) dL_mood_90 rfl ?_
          first
          | exact ih2 _ (by rw [ssum_s, pr_t (hm2.mp c_64) c_73]; omega)
          | exact ih2 _ (by rw [ssum_s, pr_f2 c_73]; omega)
          | exact ih2 _ (by rw [ssum_s, pr_f1 (fun q => c_64 (hm2.mpr q))]; omega)
        · -- 67
          refine xj_aload_n (pc2 := 68) dL_mood_67 rfl rfl rfl ?_
          refine xj_iload (pc2 := 70) dL_mood_68 rfl rfl ?_
          refine xj_iload (pc2 := 72) dL_mood_70 rfl rfl ?_
          refine xj_iload_n (pc2 := 73) dL_mood_72 rfl rfl rfl ?_
          refine xj_S4I (pc2 := 76) (d2 := 2) mok_L_quarrel ml_L_35 sta_yL_quarrel dL_mood_73 rfl rfl (by decide) (by decide) (Nat.le_of_ble_eq_true rfl) (fun _ => rfl) ?_
          refine c_L_quarrel hk hL hW (by omega) (by omega) (by omega) ?_ ?_
          · -- L_quarrel = 1
            intro c_73
            refine xj_if_eq (pc2 := 79) (tgt := 83) dL_mood_76 rfl rfl (by omega) (fun c_76 => absurd c_76 (by decide)) (fun c_76 => ?_)
            refine xj_iconst (pc2 := 80) dL_mood_79 rfl ?_
            refine xj_goto (tgt := 84) dL_mood_80 rfl ?_
            refine xj_iadd (pc2 := 85) dL_mood_84 rfl ?_
            refine xj_istore4 (pc2 := 87) dL_mood_85 rfl (by decide) rfl ?_
            refine xj_iinc6 (pc2 := 90) dL_mood_87 rfl (by decide) rfl ?_
            refine xj_goto (tgt := 43) dL_mood_90 rfl ?_
            first
            | exact ih2 _ (by rw [ssum_s, pr_t (hm2.mp c_64) c_73]; omega)
            | exact ih2 _ (by rw [ssum_s, pr_f2 c_73]; omega)
            | exact ih2 _ (by rw [ssum_s, pr_f1 (fun q => c_64 (hm2.mpr q))]; omega)
          · -- L_quarrel = 0
            intro c_73
            refine xj_if_eq (pc2 := 79) (tgt := 83) dL_mood_76 rfl rfl (by omega) (fun c_76 => ?_) (fun c_76 => absurd c_76 (by decide))
            refine xj_iconst (pc2 := 84) dL_mood_83 rfl ?_
            refine xj_iadd (pc2 := 85) dL_mood_84 rfl ?_
            refine xj_istore4 (pc2 := 87) dL_mood_85 rfl (by decide) rfl ?_
            refine xj_iinc6 (pc2 := 90) dL_mood_87 rfl (by decide) rfl ?_
            refine xj_goto (tgt := 43) dL_mood_90 rfl ?_
            first
            | exact ih2 _ (by rw [ssum_s, pr_t (hm2.mp c_64) c_73]; omega)
            | exact ih2 _ (by rw [ssum_s, pr_f2 c_73]; omega)
            | exact ih2 _ (by rw [ssum_s, pr_f1 (fun q => c_64 (hm2.mpr q))]; omega)
    have hm1 := mt (b := b) (j := j) hb (by omega)
    refine xj_iload (pc2 := 8) dL_mood_6 rfl rfl ?_
    refine xj_aload_n (pc2 := 9) dL_mood_8 rfl rfl rfl ?_
    refine xj_iconst (pc2 := 10) dL_mood_9 rfl ?_
    refine xj_iald (pc2 := 11) dL_mood_10 rfl hk (by omega) (by omega) hn ?_
    refine xj_cmp_ge (pc2 := 14) (tgt := 99) dL_mood_11 rfl rfl (by omega) (by omega) (fun c_11 => by exfalso; omega) (fun c_11 => ?_)
    refine xj_iload (pc2 := 16) dL_mood_14 rfl rfl ?_
    refine xj_iload_n (pc2 := 17) dL_mood_16 rfl rfl rfl ?_
    refine xj_iload (pc2 := 19) dL_mood_17 rfl rfl ?_
    refine xj_ishr (pc2 := 20) dL_mood_19 rfl ?_
    refine xj_iconst (pc2 := 21) dL_mood_20 rfl ?_
    refine xj_iand (pc2 := 22) dL_mood_21 rfl ?_
    refine xj_iconst (pc2 := 23) dL_mood_22 rfl ?_
    refine xj_cmp_ne (pc2 := 26) (tgt := 36) dL_mood_23 rfl rfl (by omega) (by omega) (fun c_23 => ?_) (fun c_23 => ?_)
    · -- 36
      refine xj_iconst (pc2 := 37) dL_mood_36 rfl ?_
      refine xj_iadd (pc2 := 38) dL_mood_37 rfl ?_
      refine xj_istore4 (pc2 := 40) dL_mood_38 rfl (by decide) rfl ?_
      refine xj_iconst (pc2 := 41) dL_mood_40 rfl ?_
      refine xj_istore6 (pc2 := 43) dL_mood_41 rfl (by decide) rfl ?_
      first
      | exact inner _ (by rw [if_pos (hm1.mp c_23)])
      | exact inner _ (by rw [if_neg (fun q => c_23 (hm1.mpr q))])
    · -- 26
      refine xj_aload_n (pc2 := 27) dL_mood_26 rfl rfl rfl ?_
      refine xj_iload (pc2 := 29) dL_mood_27 rfl rfl ?_
      refine xj_iload_n (pc2 := 30) dL_mood_29 rfl rfl rfl ?_
      refine xj_S3I (pc2 := 33) (d2 := 1) mok_L_then ml_L_31 sta_yL_then dL_mood_30 rfl rfl (by decide) (by decide) (Nat.le_of_ble_eq_true rfl) (fun _ => rfl) ?_
      refine c_L_then hk hL hW (by omega) (by omega) ?_
      refine xj_goto (tgt := 37) dL_mood_33 rfl ?_
      refine xj_iadd (pc2 := 38) dL_mood_37 rfl ?_
      refine xj_istore4 (pc2 := 40) dL_mood_38 rfl (by decide) rfl ?_
      refine xj_iconst (pc2 := 41) dL_mood_40 rfl ?_
      refine xj_istore6 (pc2 := 43) dL_mood_41 rfl (by decide) rfl ?_
      first
      | exact inner _ (by rw [if_pos (hm1.mp c_23)])
      | exact inner _ (by rw [if_neg (fun q => c_23 (hm1.mpr q))])
theorem c_L_mood {c : Nat} {S : Sh} {w m : Int} {h : Hp} {Q : Int → Hp → Prop} (hk : kd c = (1, 39)) (hL : RW c S h) (hW : WF S) (hw : 0 ≤ w ∧ w < S 6 1) (hm : 0 ≤ m ∧ m ≤ 40) (hq : Q (moodZ S w (bsum (heldP S w) (nG S)) m) h) : CJ 3 kL_mood [.ref c, vi (S 4 w), vi (bsum (heldP S w) (nG S)), vi m] h Q := by
  have hnn := wf_n hW
  have hng := nG_eq hW
  have hbs := bsum_le6 (p := heldP S w) (n := nG S) (by omega)
  exact c_L_mood0 hk hL hW (by omega) hm (q_eq (mood_pairs hW hw hm.1) hq)
theorem wishN_or (S : Sh) (w : Int) : wishN S w = 1 ∨ wishN S w = 0 := by unfold wishN; split <;> simp
theorem c_L_well {c : Nat} {S : Sh} {w : Int} {h : Hp} {Q : Int → Hp → Prop} (hk : kd c = (1, 39)) (hL : RW c S h) (hW : WF S) (hw : 0 ≤ w ∧ w < S 6 1) (h1 : wishZ S w (moodN S w) = true → Q 1 h) (h0 : ¬ wishZ S w (moodN S w) = true → Q 0 h) : CJ 4 kL_well [.ref c, vi w, vi (bsum (heldP S w) (nG S))] h Q := by
  have hnn := wf_n hW
  have hwg := wf_w hW hw
  have hmr := moodZ_rg hW (b := bsum (heldP S w) (nG S)) (m := 0) hw (by decide)
  have hdz := doz_rg (m := moodZ S w (bsum (heldP S w) (nG S)) 0)
  have hz : wishZ S w (moodN S w) = true ↔ (S 5 w = 2 ∨ S 5 w = doz (moodZ S w (bsum (heldP S w) (nG S)) 0)) := by unfold wishZ moodN; exact decide_eq_true_iff
  rw [hz] at h1 h0
  refine cj_of (lo := [some (.ref c), some (vi w), some (vi (bsum (heldP S w) (nG S)))]) mok_L_well (fun _ => rfl) (fun _ => Nat.le_of_ble_eq_true rfl) ?_
  refine xj_aload_n (pc2 := 1) dL_well_0 rfl rfl rfl ?_
  refine xj_bipush (pc2 := 3) dL_well_1 rfl (by decide) ?_
  refine xj_iload_n (pc2 := 4) dL_well_3 rfl rfl rfl ?_
  refine xj_iadd (pc2 := 5) dL_well_4 rfl ?_
  refine xj_iald (pc2 := 6) dL_well_5 rfl hk (by omega) (by omega) (rn1 hL hw (by omega)) ?_
  refine xj_iconst (pc2 := 7) dL_well_6 rfl ?_
  refine xj_cmp_eq (pc2 := 10) (tgt := 33) dL_well_7 rfl rfl (by omega) (by omega) (fun c_7 => ?_) (fun c_7 => ?_)
  · -- 33
    refine xj_iconst (pc2 := 34) dL_well_33 rfl ?_
    refine xj_goto (tgt := 38) dL_well_34 rfl ?_
    refine xj_zret dL_well_38 rfl (by decide) ?_
    first | exact h1 (by omega) | exact h0 (by omega)
  · -- 10
    refine xj_aload_n (pc2 := 11) dL_well_10 rfl rfl rfl ?_
    refine xj_bipush (pc2 := 13) dL_well_11 rfl (by decide) ?_
    refine xj_iload_n (pc2 := 14) dL_well_13 rfl rfl rfl ?_
    refine xj_iadd (pc2 := 15) dL_well_14 rfl ?_
    refine xj_iald (pc2 := 16) dL_well_15 rfl hk (by omega) (by omega) (rn1 hL hw (by omega)) ?_
    refine xj_aload_n (pc2 := 17) dL_well_16 rfl rfl rfl ?_
    refine xj_aload_n (pc2 := 18) dL_well_17 rfl rfl rfl ?_
    refine xj_iconst (pc2 := 19) dL_well_18 rfl ?_
    refine xj_iload_n (pc2 := 20) dL_well_19 rfl rfl rfl ?_
    refine xj_iadd (pc2 := 21) dL_well_20 rfl ?_
    refine xj_iald (pc2 := 22) dL_well_21 rfl hk (by omega) (by omega) (rn0 hL hw (by omega)) ?_
    refine xj_iload_n (pc2 := 23) dL_well_22 rfl rfl rfl ?_
    refine xj_iconst (pc2 := 24) dL_well_23 rfl ?_
    refine xj_S4I (pc2 := 27) (d2 := 3) mok_L_mood ml_L_39 sta_yL_mood dL_well_24 rfl rfl (by decide) (by decide) (Nat.le_of_ble_eq_true rfl) (fun _ => rfl) ?_
    refine c_L_mood hk hL hW hw (by omega) ?_
    refine xj_S1I (pc2 := 30) (d2 := 0) mok_L_doing ml_L_43 sta_yL_doing dL_well_27 rfl rfl (by decide) (by decide) (Nat.le_of_ble_eq_true rfl) (fun _ => rfl) ?_
    refine c_L_doing (by omega) ?_
    refine xj_cmp_ne (pc2 := 33) (tgt := 37) dL_well_30 rfl rfl (by omega) (by omega) (fun c_30 => ?_) (fun c_30 => ?_)
    · -- 37
      refine xj_iconst (pc2 := 38) dL_well_37 rfl ?_
      refine xj_zret dL_well_38 rfl (by decide) ?_
      first | exact h1 (by omega) | exact h0 (by omega)
    · -- 33
      refine xj_iconst (pc2 := 34) dL_well_33 rfl ?_
      refine xj_goto (tgt := 38) dL_well_34 rfl ?_
      refine xj_zret dL_well_38 rfl (by decide) ?_
      first | exact h1 (by omega) | exact h0 (by omega)
theorem c_L_hour {c : Nat} {S : Sh} {h : Hp} {Q : Int → Hp → Prop} (hk : kd c = (1, 39)) (hL : RW c S h) (hW : WF S) (hq : ∀ h', RW c (passS S) h' → (∀ k, k < 9 → h' c k = h c k) → (∀ c' k, c' ≠ c → h' c' k = h c' k) → Q 0 h') : CJ 0 kL_hour [.ref c] h Q := by
  obtain ⟨⟨hn, hw⟩, hG, hN⟩ := id hL
  have hnn := wf_n hW
  have hng := nG_eq hW
  refine cj_of (lo := [some (.ref c), none]) mok_L_hour (fun _ => rfl) (fun _ => Nat.le_of_ble_eq_true rfl) ?_
  refine xj_iconst (pc2 := 1) dL_hour_0 rfl ?_
  refine xj_istore1 (pc2 := 2) dL_hour_1 rfl rfl (by decide) rfl ?_
  refine down (P := fun j => ∀ h' : Hp, (∀ c' k, c' ≠ c → h' c' k = h c' k) → (∀ k, (∀ g, 0 ≤ g → g < (j : Int) → k ≠ 11 + 5 * g) → h' c k = h c k) → (∀ g, 0 ≤ g → g < (j : Int) → h' c (11 + 5 * g) = passS S 2 g) → XJ none 0 kL_hour h' 2 [some (.ref c), some (vi j)] [] Q) (n := nG S) ?_ ?_ h (fun _ _ _ => rfl) (fun _ _ => rfl) (fun g h0 h1 => by omega)
  · intro h' f1 f2 f3
    have hn' : h' c 0 = S 6 0 := by rw [f2 _ (fun g h0 h1 => by omega), hn]
    have s60 : passS S 6 0 = S 6 0 := passS_t (by decide) (by decide)
    have s61 : passS S 6 1 = S 6 1 := passS_t (by decide) (by decide)
    have fin : RW c (passS S) h' := by
      refine ⟨⟨by rw [hn', s60], by rw [f2 _ (fun g h0 h1 => by omega), hw, s61]⟩, fun g h0 h1 => ?_, fun w h0 h1 => ?_⟩
      · rw [s60] at h1
        obtain ⟨b1, b2, b3, b4, b5⟩ := hG g h0 h1
        exact ⟨by rw [f2 _ (fun g h0 h1 => by omega), b1, passS0], by rw [f2 _ (fun g h0 h1 => by omega), b2, passS1], f3 g h0 (by omega), by rw [f2 _ (fun g h0 h1 => by omega), b4, passS3], by rw [f2 _ (fun g h0 h1 => by omega), b5, passS3]⟩
      · rw [s61] at h1
        obtain ⟨b1, b2⟩ := hN w h0 h1
        exact ⟨by rw [f2 _ (fun g h0 h1 => by omega), b1, passS4], by rw [f2 _ (fun g h0 h1 => by omega), b2, passS5]⟩
    refine xj_iload_n (pc2 := 3) dL_hour_2 rfl rfl rfl ?_
    refine xj_aload_n (pc2 := 4) dL_hour_3 rfl rfl rfl ?_
    refine xj_iconst (pc2 := 5) dL_hour_4 rfl ?_
    refine xj_iald (pc2 := 6) dL_hour_5 rfl hk (by omega) (by omega) hn' ?_
    refine xj_cmp_ge (pc2 := 9) (tgt := 55) dL_hour_6 rfl rfl (by omega) (by omega) (fun c_6 => ?_) (fun c_6 => by exfalso; omega)
    refine xj_vret dL_hour_55 rfl ?_
    exact hq h' fin (fun k hk => f2 k (fun g h0 h1 => by omega)) f1
  · intro j hj ih h' f1 f2 f3
    have hg : 0 ≤ (j : Int) ∧ (j : Int) < S 6 0 := by omega
    have hn' : h' c 0 = S 6 0 := by rw [f2 _ (fun g h0 h1 => by omega), hn]
    have hhb := hold_b hW hg
    have hwg := wf_g hW hg
    have ha : h' c (11 + 5 * (j : Int)) = S 2 j := by rw [f2 _ (fun g h0 h1 => by omega)]; exact (hG j hg.1 hg.2).2.2.1
    have hh : h' c (12 + 5 * (j : Int)) = hold (S 3 j) := by rw [f2 _ (fun g h0 h1 => by omega)]; exact (hG j hg.1 hg.2).2.2.2.1
    have fin : ∀ v, v = passS S 2 j → XJ none 0 kL_hour (hset h' c (11 + 5 * (j : Int)) v) 2 [some (.ref c), some (vi ((j + 1 : Nat) : Int))] [] Q := by
      intro v hv
      refine ih _ (fun c' k hc => by rw [hset_nc hc, f1 c' k hc]) (fun k hk => ?_) (fun g h0 h1 => ?_)
      · rw [hset_nk (hk j (by omega) (by omega))]
        exact f2 k (fun g h0 h1 => hk g h0 (by omega))
      · by_cases e : g = (j : Int)
        · subst e; rw [hset_eq]; exact hv
        · rw [hset_nk (by omega)]; exact f3 g h0 (by omega)
    refine xj_iload_n (pc2 := 3) dL_hour_2 rfl rfl rfl ?_
    refine xj_aload_n (pc2 := 4) dL_hour_3 rfl rfl rfl ?_
    refine xj_iconst (pc2 := 5) dL_hour_4 rfl ?_
    refine xj_iald (pc2 := 6) dL_hour_5 rfl hk (by omega) (by omega) hn' ?_
    refine xj_cmp_ge (pc2 := 9) (tgt := 55) dL_hour_6 rfl rfl (by omega) (by omega) (fun c_6 => by exfalso; omega) (fun c_6 => ?_)
    refine xj_aload_n (pc2 := 10) dL_hour_9 rfl rfl rfl ?_
    refine xj_bipush (pc2 := 12) dL_hour_10 rfl (by decide) ?_
    refine xj_iconst (pc2 := 13) dL_hour_12 rfl ?_
    refine xj_iload_n (pc2 := 14) dL_hour_13 rfl rfl rfl ?_
    refine xj_imul (pc2 := 15) dL_hour_14 rfl ?_
    refine xj_iadd (pc2 := 16) dL_hour_15 rfl ?_
    refine xj_dup2 (pc2 := 17) dL_hour_16 rfl rfl rfl ?_
    refine xj_iald (pc2 := 18) dL_hour_17 rfl hk (by omega) (by omega) ha ?_
    refine xj_aload_n (pc2 := 19) dL_hour_18 rfl rfl rfl ?_
    refine xj_bipush (pc2 := 21) dL_hour_19 rfl (by decide) ?_
    refine xj_iconst (pc2 := 22) dL_hour_21 rfl ?_
    refine xj_iload_n (pc2 := 23) dL_hour_22 rfl rfl rfl ?_
    refine xj_imul (pc2 := 24) dL_hour_23 rfl ?_
    refine xj_iadd (pc2 := 25) dL_hour_24 rfl ?_
    refine xj_iald (pc2 := 26) dL_hour_25 rfl hk (by omega) (by omega) hh ?_
    refine xj_if_lt (pc2 := 29) (tgt := 46) dL_hour_26 rfl rfl (by omega) (fun c_26 => ?_) (fun c_26 => ?_)
    · -- 46
      refine xj_iconst (pc2 := 47) dL_hour_46 rfl ?_
      refine xj_iadd (pc2 := 48) dL_hour_47 rfl ?_
      refine xj_iast (pc2 := 49) dL_hour_48 rfl hk (by omega) (by omega) ?_
      refine xj_iinc1 (pc2 := 52) dL_hour_49 rfl (by decide) rfl ?_
      refine xj_goto (tgt := 2) dL_hour_52 rfl ?_
      exact fin _ (by rw [passS_a]; unfold agez; (repeat' split) <;> omega)
    · -- 29
      refine xj_aload_n (pc2 := 30) dL_hour_29 rfl rfl rfl ?_
      refine xj_bipush (pc2 := 32) dL_hour_30 rfl (by decide) ?_
      refine xj_iconst (pc2 := 33) dL_hour_32 rfl ?_
      refine xj_iload_n (pc2 := 34) dL_hour_33 rfl rfl rfl ?_
      refine xj_imul (pc2 := 35) dL_hour_34 rfl ?_
      refine xj_iadd (pc2 := 36) dL_hour_35 rfl ?_
      refine xj_iald (pc2 := 37) dL_hour_36 rfl hk (by omega) (by omega) ha ?_
      refine xj_bipush (pc2 := 39) dL_hour_37 rfl (by decide) ?_
      refine xj_cmp_ge (pc2 := 42) (tgt := 46) dL_hour_39 rfl rfl (by omega) (by omega) (fun c_39 => ?_) (fun c_39 => ?_)
      · -- 46
        refine xj_iconst (pc2 := 47) dL_hour_46 rfl ?_
        refine xj_iadd (pc2 := 48) dL_hour_47 rfl ?_
        refine xj_iast (pc2 := 49) dL_hour_48 rfl hk (by omega) (by omega) ?_
        refine xj_iinc1 (pc2 := 52) dL_hour_49 rfl (by decide) rfl ?_
        refine xj_goto (tgt := 2) dL_hour_52 rfl ?_
        exact fin _ (by rw [passS_a]; unfold agez; (repeat' split) <;> omega)
      · -- 42
        refine xj_iconst (pc2 := 43) dL_hour_42 rfl ?_
        refine xj_goto (tgt := 47) dL_hour_43 rfl ?_
        refine xj_iadd (pc2 := 48) dL_hour_47 rfl ?_
        refine xj_iast (pc2 := 49) dL_hour_48 rfl hk (by omega) (by omega) ?_
        refine xj_iinc1 (pc2 := 52) dL_hour_49 rfl (by decide) rfl ?_
        refine xj_goto (tgt := 2) dL_hour_52 rfl ?_
        exact fin _ (by rw [passS_a]; unfold agez; (repeat' split) <;> omega)
