/-! what the law asks of all -/
def JJ (S I : Sh) (pg : Int → Int) (tr : Int) (h : Hp) : Prop := KC S I 0 pg 0 tr 0 h ∧ KW S I 0 tr 0 ∧ RW 145 S h ∧ h 145 2 = S 6 2 ∧ S 6 3 = 0 ∧ 0 < S 6 0
section TO
variable {S I : Sh} {pg : Int → Int} {tr : Int} {h : Hp} {Q : Int → Hp → Prop}
theorem JJ_fr {h' : Hp} (hJ : JJ S I pg tr h) (k : KC S I 0 pg 0 tr 0 h') (f : FrC h h') : JJ S I pg tr h' := ⟨k, hJ.2.1, RW_eq hJ.2.2.1 (fun k => f 145 k (by omega)), (f 145 2 (by omega)).trans hJ.2.2.2.1, hJ.2.2.2.2⟩
theorem u_glove {g x v : Int} (hJ : JJ S I pg tr h) (hg : -2147483648 ≤ g ∧ g ≤ 2147483647) (hx : -2147483648 ≤ x ∧ x ≤ 2147483647) (hv : gloveZ S g x = v) (hq : ∀ h', JJ S I pg tr h' → Q v h') : CJ 4 kX6_glove [.ref 0, vi g, vi x] h Q := c_X6_glove hJ.1 hJ.2.1 hg hx (fun h' k f => by rw [hv]; exact hq h' (JJ_fr hJ k f))
theorem u_wearer {g x v : Int} (hJ : JJ S I pg tr h) (hg : -2147483648 ≤ g ∧ g ≤ 2147483647) (hx : -2147483648 ≤ x ∧ x ≤ 2147483647) (hv : wearerZ S g x = v) (hq : ∀ h', JJ S I pg tr h' → Q v h') : CJ 4 kX6_wearer [.ref 0, vi g, vi x] h Q := c_X6_wearer hJ.1 hJ.2.1 hg hx (fun h' k f => by rw [hv]; exact hq h' (JJ_fr hJ k f))
theorem u_mood {g x v : Int} (hJ : JJ S I pg tr h) (hg : -2147483648 ≤ g ∧ g ≤ 2147483647) (hx : -2147483648 ≤ x ∧ x ≤ 2147483647) (hv : moodV S g x = v) (hq : ∀ h', JJ S I pg tr h' → Q v h') : CJ 4 kX6_mood [.ref 0, vi g, vi x] h Q := c_X6_mood hJ.1 hJ.2.1 hg hx (fun h' k f => by rw [hv]; exact hq h' (JJ_fr hJ k f))
theorem u_as {g x v : Int} (hJ : JJ S I pg tr h) (hg : -2147483648 ≤ g ∧ g ≤ 2147483647) (hx : -2147483648 ≤ x ∧ x ≤ 2147483647) (hv : asZ S g x = v) (hq : ∀ h', JJ S I pg tr h' → Q v h') : CJ 1 kX6_as [.ref 0, vi g, vi x] h Q := c_X6_as hJ.1 hJ.2.1 hg hx (fun h' k f => by rw [hv]; exact hq h' (JJ_fr hJ k f))
theorem u_count {x v : Int} (hJ : JJ S I pg tr h) (hx : -2147483648 ≤ x ∧ x ≤ 2147483647) (hv : countZ S 0 tr 0 x = v) (hq : ∀ h', JJ S I pg tr h' → Q v h') : CJ 5 kX6_count [.ref 0, vi x] h Q := c_X6_count hJ.1 hJ.2.1 hx (fun h' k f => by rw [hv]; exact hq h' (JJ_fr hJ k f))
theorem u_teas {k s x v : Int} (hJ : JJ S I pg tr h) (hk : -2147483648 ≤ k ∧ k ≤ 2147483647) (hs : -2147483648 ≤ s ∧ s ≤ 2147483647) (hx : -2147483648 ≤ x ∧ x ≤ 2147483647) (hv : teasZ S k s x = v) (hq : ∀ h', JJ S I pg tr h' → FrC h h' → Q v h') : CJ 5 kX6_teas [.ref 0, vi k, vi s, vi x] h Q := c_X6_teas hJ.1 hJ.2.1 hk hs hx (fun h' k f => by rw [hv]; exact hq h' (JJ_fr hJ k f) f)
theorem pm_all (h0 : S 6 3 = 0) (g : Int) : pmZ S g = 1023 := by
  unfold pmZ
  have e : (fun m : Nat => agr S g m) = fun _ => true := by
    funext m
    unfold agr
    rw [h0]
    rfl
  rw [e]
  rfl
theorem cnt_ss (p : Nat → Bool) : ∀ n, ssum (fun g => if p g then (1 : Int) else 0) n = cntz p n
  | 0 => rfl
  | n + 1 => by
    rw [ssum_s, cnt_ss p n]
    rfl
theorem pairs_2 {q : Nat → Nat → Bool} (hs : ∀ a b, q a b = q b a) (hi : ∀ a, q a a = false) : ∀ n, ssum (fun g => cntz (q g) n) n = 2 * ssum (fun g => cntz (q g) g) n
  | 0 => rfl
  | n + 1 => by
    have e1 : ssum (fun g => cntz (q g) (n + 1)) n = ssum (fun g => cntz (q g) n) n + ssum (fun g => if q g n then (1 : Int) else 0) n := ssum_add n
    have e2 : cntz (fun g => q g n) n = cntz (q n) n := cntz_congr n (fun j _ => hs j n)
    rw [ssum_s, ssum_s, e1, pairs_2 hs hi n, cnt_ss (fun g => q g n) n, e2, cntz_f (hi n)]
    omega
def quar2 (S : Sh) (a b : Nat) : Bool := quarP S a b
theorem twos_ok (hW : WF S) : ssum (fun g => pc (bsum (quarP S g) (nG S))) (nG S) / 2 = ssum (fun g => cntz (quarP S g) g) (nG S) := by
  have hnn := wf_n hW
  have hng := nG_eq hW
  have e : ssum (fun g => pc (bsum (quarP S g) (nG S))) (nG S) = ssum (fun g => cntz (quar2 S g) (nG S)) (nG S) := ssum_congr _ (fun j _ => pc_bsum _ (by omega))
  have k := pairs_2 (q := quar2 S) (fun a b => by unfold quar2 quarP; apply decide_eq_decide.mpr; omega) (fun a => by unfold quar2 quarP; apply decide_eq_false; omega) (nG S)
  have k2 : ssum (fun g => cntz (quar2 S g) g) (nG S) = ssum (fun g => cntz (quarP S g) g) (nG S) := rfl
  rw [e, k, k2]
  omega
theorem on_ok (hW : WF S) : cntz (onP S) (nG S) = S 6 0 - pc (bsum (heldP S (-1)) (nG S)) := by
  have hnn := wf_n hW
  have hng := nG_eq hW
  rw [pc_bsum _ (by omega), ← hng]
  exact (cntz_not _).symm
theorem qz_t {a b : Nat} (h : QZ S a b 0) : quarP S a b = true := decide_eq_true h
theorem qz_f {a b : Nat} (h : ¬ QZ S a b 0) : quarP S a b = false := decide_eq_false h
theorem goZ_rg (hW : WF S) (x : Int) : -1 ≤ goZ S x ∧ goZ S x ≤ 6 := by
  have hnn := wf_n hW
  rcases goZ_spec hW x with h | h <;> omega
theorem asZ_or (g x : Int) (hg : 0 ≤ g ∧ g < S 6 0) (hx : 0 ≤ x ∧ x ≤ 4) : ((x = 0 ∨ S 0 g = x ∨ (x = 1 ∧ S 0 g = 4)) ∧ asZ S g x = g) ∨ (¬ (x = 0 ∨ S 0 g = x ∨ (x = 1 ∧ S 0 g = 4)) ∧ asZ S g x = -1) := by
  unfold asZ
  rw [if_neg (fun q => q hg), if_neg (fun q => q hx)]
  by_cases e : x = 0 ∨ S 0 g = x ∨ (x = 1 ∧ S 0 g = 4)
  · rw [if_pos e]; exact Or.inl ⟨e, rfl⟩
  · rw [if_neg e]; exact Or.inr ⟨e, rfl⟩
theorem c_L_told {x : Int} (hJ : JJ S I pg tr h) (hx : 0 ≤ x ∧ x ≤ 40) (hq : ∀ h', JJ S I pg tr h' → True → Q 1 h') : CJ 6 kL_told [.ref 0, .ref 145, vi x] h Q := by
  have hW := hJ.2.1.1
  have h999 := hJ.2.1.2.1
  have hs3 := hJ.2.2.2.2.1
  have hnn := wf_n hW
  have hng := nG_eq hW
  have hnw := nW_eq hW
  -- the counts
  have s554 : ∀ h', JJ S I pg tr h' → XJ none 6 kL_told h' 554 [some (.ref 0), some (.ref 145), some (vi x), some (vi (ssum (fun g => cntz (quarP S g) g) (nG S))), some (vi (ssum (fun g => tz S g 0) (nG S))), some (vi (cntz (doP S 1) (nW S))), some (vi (cntz (doP S 0) (nW S))), some (vi (cntz (wiP S) (nW S))), none, none, none] [] Q := by
    intro h' hJ
    have hL := hJ.2.2.1
    have c1 := cntz_rg (q := onP S) (nG S)
    have c2 := cntz_rg (q := doP S 1) (nW S)
    have c3 := cntz_rg (q := doP S 0) (nW S)
    have c4 := cntz_rg (q := wiP S) (nW S)
    have hon := on_ok hW
    have htw := twos_ok hW
    have hbs := bsum_le6 (p := heldP S (-1)) (n := nG S) (by omega)
    have hpc := pc_rg6 hbs
    have r1 := ssum_rg (f := fun g => cntz (quarP S g) g) (a := 0) (b := 6) (by decide) (by decide) (nG S) (fun j hj => by have := cntz_rg (q := quarP S j) j; omega)
    have r2 := ssum_rg (f := fun g => tz S g 0) (a := 0) (b := 9) (by decide) (by decide) (nG S) (tz_rgn hW (by decide))
    generalize ssum (fun g => cntz (quarP S g) g) (nG S) = TW at htw r1 ⊢
    generalize hTE : ssum (fun g => tz S g 0) (nG S) = TE at r2 ⊢
    refine xj_aload_n (pc2 := 555) dL_told_554 rfl rfl rfl ?_
    refine xj_iconst (pc2 := 556) dL_told_555 rfl ?_
    refine xj_V1I (pc2 := 559) (d2 := 5) mok_X6_count ml_L_118 ima_yX6_count sel_yX6_count rfl rfl dL_told_556 rfl rfl (by decide) (by decide) (Nat.le_of_ble_eq_true rfl) (fun _ => rfl) ?_
    refine u_count hJ (by omega) (v := S 6 0) rfl ?_
    intro h2 hJ
    have hL := hJ.2.2.1
    refine xj_aload_n (pc2 := 560) dL_told_559 rfl rfl rfl ?_
    refine xj_iconst (pc2 := 561) dL_told_560 rfl ?_
    refine xj_iald (pc2 := 562) dL_told_561 rfl rfl (by omega) (by omega) hL.1.1 ?_
    refine xj_cmp_ne (pc2 := 565) (tgt := 663) dL_told_562 rfl rfl (by omega) (by omega) (fun c_562 => by exfalso; omega) (fun c_562 => ?_)
    refine xj_aload_n (pc2 := 566) dL_told_565 rfl rfl rfl ?_
    refine xj_iconst (pc2 := 567) dL_told_566 rfl ?_
    refine xj_V1I (pc2 := 570) (d2 := 5) mok_X6_count ml_L_118 ima_yX6_count sel_yX6_count rfl rfl dL_told_567 rfl rfl (by decide) (by decide) (Nat.le_of_ble_eq_true rfl) (fun _ => rfl) ?_
    refine u_count hJ (by omega) (v := S 6 1) rfl ?_
    intro h2 hJ
    have hL := hJ.2.2.1
    refine xj_aload_n (pc2 := 571) dL_told_570 rfl rfl rfl ?_
    refine xj_iconst (pc2 := 572) dL_told_571 rfl ?_
    refine xj_iald (pc2 := 573) dL_told_572 rfl rfl (by omega) (by omega) hL.1.2 ?_
    refine xj_cmp_ne (pc2 := 576) (tgt := 663) dL_told_573 rfl rfl (by omega) (by omega) (fun c_573 => by exfalso; omega) (fun c_573 => ?_)
    refine xj_aload_n (pc2 := 577) dL_told_576 rfl rfl rfl ?_
    refine xj_iconst (pc2 := 578) dL_told_577 rfl ?_
    refine xj_V1I (pc2 := 581) (d2 := 5) mok_X6_count ml_L_118 ima_yX6_count sel_yX6_count rfl rfl dL_told_578 rfl rfl (by decide) (by decide) (Nat.le_of_ble_eq_true rfl) (fun _ => rfl) ?_
    refine u_count hJ (by omega) (v := cntz (onP S) (nG S)) rfl ?_
    intro h2 hJ
    have hL := hJ.2.2.1
    refine xj_aload_n (pc2 := 582) dL_told_581 rfl rfl rfl ?_
    refine xj_iconst (pc2 := 583) dL_told_582 rfl ?_
    refine xj_iald (pc2 := 584) dL_told_583 rfl rfl (by omega) (by omega) hL.1.1 ?_
    refine xj_aload_n (pc2 := 585) dL_told_584 rfl rfl rfl ?_
    refine xj_iconst (pc2 := 586) dL_told_585 rfl ?_
    refine xj_S2I (pc2 := 589) (d2 := 0) mok_L_worn ml_L_58 sta_yL_worn dL_told_586 rfl rfl (by decide) (by decide) (Nat.le_of_ble_eq_true rfl) (fun _ => rfl) ?_
    refine c_L_worn rfl hL hW (by omega) ?_
    refine xj_S1I (pc2 := 592) (d2 := 0) mok_L_ones ml_L_100 sta_yL_ones dL_told_589 rfl rfl (by decide) (by decide) (Nat.le_of_ble_eq_true rfl) (fun _ => rfl) ?_
    refine c_L_ones (by omega) ?_
    refine xj_isub (pc2 := 593) dL_told_592 rfl ?_
    refine xj_cmp_ne (pc2 := 596) (tgt := 663) dL_told_593 rfl rfl (by omega) (by omega) (fun c_593 => by exfalso; omega) (fun c_593 => ?_)
    refine xj_aload_n (pc2 := 597) dL_told_596 rfl rfl rfl ?_
    refine xj_iconst (pc2 := 598) dL_told_597 rfl ?_
    refine xj_V1I (pc2 := 601) (d2 := 5) mok_X6_count ml_L_118 ima_yX6_count sel_yX6_count rfl rfl dL_told_598 rfl rfl (by decide) (by decide) (Nat.le_of_ble_eq_true rfl) (fun _ => rfl) ?_
    refine u_count hJ (by omega) (v := S 6 2) rfl ?_
    intro h2 hJ
    have hL := hJ.2.2.1
    refine xj_aload_n (pc2 := 602) dL_told_601 rfl rfl rfl ?_
    refine xj_iconst (pc2 := 603) dL_told_602 rfl ?_
    refine xj_iald (pc2 := 604) dL_told_603 rfl rfl (by omega) (by omega) hJ.2.2.2.1 ?_
    refine xj_cmp_ne (pc2 := 607) (tgt := 663) dL_told_604 rfl rfl (by omega) (by omega) (fun c_604 => by exfalso; omega) (fun c_604 => ?_)
    refine xj_aload_n (pc2 := 608) dL_told_607 rfl rfl rfl ?_
    refine xj_iconst (pc2 := 609) dL_told_608 rfl ?_
    refine xj_V1I (pc2 := 612) (d2 := 5) mok_X6_count ml_L_118 ima_yX6_count sel_yX6_count rfl rfl dL_told_609 rfl rfl (by decide) (by decide) (Nat.le_of_ble_eq_true rfl) (fun _ => rfl) ?_
    refine u_count hJ (by omega) (v := cntz (doP S 1) (nW S)) rfl ?_
    intro h2 hJ
    have hL := hJ.2.2.1
    refine xj_iload (pc2 := 614) dL_told_612 rfl rfl ?_
    refine xj_cmp_ne (pc2 := 617) (tgt := 663) dL_told_614 rfl rfl (by omega) (by omega) (fun c_614 => by exfalso; omega) (fun c_614 => ?_)
    refine xj_aload_n (pc2 := 618) dL_told_617 rfl rfl rfl ?_
    refine xj_iconst (pc2 := 619) dL_told_618 rfl ?_
    refine xj_V1I (pc2 := 622) (d2 := 5) mok_X6_count ml_L_118 ima_yX6_count sel_yX6_count rfl rfl dL_told_619 rfl rfl (by decide) (by decide) (Nat.le_of_ble_eq_true rfl) (fun _ => rfl) ?_
    refine u_count hJ (by omega) (v := cntz (doP S 0) (nW S)) rfl ?_
    intro h2 hJ
    have hL := hJ.2.2.1
    refine xj_iload (pc2 := 624) dL_told_622 rfl rfl ?_
    refine xj_cmp_ne (pc2 := 627) (tgt := 663) dL_told_624 rfl rfl (by omega) (by omega) (fun c_624 => by exfalso; omega) (fun c_624 => ?_)
    refine xj_aload_n (pc2 := 628) dL_told_627 rfl rfl rfl ?_
    refine xj_bipush (pc2 := 630) dL_told_628 rfl (by decide) ?_
    refine xj_V1I (pc2 := 633) (d2 := 5) mok_X6_count ml_L_118 ima_yX6_count sel_yX6_count rfl rfl dL_told_630 rfl rfl (by decide) (by decide) (Nat.le_of_ble_eq_true rfl) (fun _ => rfl) ?_
    refine u_count hJ (by omega) (v := cntz (wiP S) (nW S)) rfl ?_
    intro h2 hJ
    have hL := hJ.2.2.1
    refine xj_iload (pc2 := 635) dL_told_633 rfl rfl ?_
    refine xj_cmp_ne (pc2 := 638) (tgt := 663) dL_told_635 rfl rfl (by omega) (by omega) (fun c_635 => by exfalso; omega) (fun c_635 => ?_)
    refine xj_aload_n (pc2 := 639) dL_told_638 rfl rfl rfl ?_
    refine xj_bipush (pc2 := 641) dL_told_639 rfl (by decide) ?_
    refine xj_V1I (pc2 := 644) (d2 := 5) mok_X6_count ml_L_118 ima_yX6_count sel_yX6_count rfl rfl dL_told_641 rfl rfl (by decide) (by decide) (Nat.le_of_ble_eq_true rfl) (fun _ => rfl) ?_
    refine u_count hJ (by omega) (v := TW) htw ?_
    intro h2 hJ
    have hL := hJ.2.2.1
    refine xj_iload_n (pc2 := 645) dL_told_644 rfl rfl rfl ?_
    refine xj_cmp_ne (pc2 := 648) (tgt := 663) dL_told_645 rfl rfl (by omega) (by omega) (fun c_645 => by exfalso; omega) (fun c_645 => ?_)
    refine xj_aload_n (pc2 := 649) dL_told_648 rfl rfl rfl ?_
    refine xj_bipush (pc2 := 651) dL_told_649 rfl (by decide) ?_
    refine xj_V1I (pc2 := 654) (d2 := 5) mok_X6_count ml_L_118 ima_yX6_count sel_yX6_count rfl rfl dL_told_651 rfl rfl (by decide) (by decide) (Nat.le_of_ble_eq_true rfl) (fun _ => rfl) ?_
    refine u_count hJ (by omega) (v := TE) hTE ?_
    intro h2 hJ
    have hL := hJ.2.2.1
    refine xj_iload (pc2 := 656) dL_told_654 rfl rfl ?_
    refine xj_cmp_ne (pc2 := 659) (tgt := 663) dL_told_656 rfl rfl (by omega) (by omega) (fun c_656 => by exfalso; omega) (fun c_656 => ?_)
    refine xj_iconst (pc2 := 660) dL_told_659 rfl ?_
    refine xj_goto (tgt := 664) dL_told_660 rfl ?_
    refine xj_zret dL_told_664 rfl (by decide) ?_
    exact hq _ hJ trivial
  -- the wearers
  have s313 : ∀ h', JJ S I pg tr h' → XJ none 6 kL_told h' 313 [some (.ref 0), some (.ref 145), some (vi x), some (vi (ssum (fun g => cntz (quarP S g) g) (nG S))), some (vi (ssum (fun g => tz S g 0) (nG S))), some (vi 0), some (vi 0), some (vi 0), some (vi 0), none, none] [] Q := by
    generalize ssum (fun g => cntz (quarP S g) g) (nG S) = TW at s554 ⊢
    generalize ssum (fun g => tz S g 0) (nG S) = TE at s554 ⊢
    refine down (P := fun n => ∀ h', JJ S I pg tr h' → XJ none 6 kL_told h' 313 [some (.ref 0), some (.ref 145), some (vi x), some (vi TW), some (vi TE), some (vi (cntz (doP S 1) n)), some (vi (cntz (doP S 0) n)), some (vi (cntz (wiP S) n)), some (vi n), none, none] [] Q) (n := nW S) ?_ ?_
    · intro h' hJ
      have hL := hJ.2.2.1
      refine xj_iload (pc2 := 315) dL_told_313 rfl rfl ?_
      refine xj_aload_n (pc2 := 316) dL_told_315 rfl rfl rfl ?_
      refine xj_iconst (pc2 := 317) dL_told_316 rfl ?_
      refine xj_iald (pc2 := 318) dL_told_317 rfl rfl (by omega) (by omega) hL.1.2 ?_
      refine xj_cmp_ge (pc2 := 321) (tgt := 554) dL_told_318 rfl rfl (by omega) (by omega) (fun c_318 => ?_) (fun c_318 => by exfalso; omega)
      exact xj_sub (by repeat (first | exact subL_nil | apply subL_none | apply subL_some rfl)) (s554 h' hJ)
    · intro j hj ih h' hJ
      have hL := hJ.2.2.1
      have hg : 0 ≤ (j : Int) ∧ (j : Int) < S 6 1 := by omega
      have hgr : -2147483648 ≤ (j : Int) ∧ (j : Int) ≤ 2147483647 := by omega
      have hww := wf_w hW hg
      have hmr := moodZ_rg hW (b := bsum (heldP S j) (nG S)) (m := 0) hg (by decide)
      have hmx := moodZ_rg hW (b := bsum (heldP S j) (nG S)) (m := x) hg hx.1
      have hdz := doz_rg (m := moodZ S j (bsum (heldP S j) (nG S)) 0)
      have hg0 := goZ_rg hW (2 * (j : Int) + 0)
      have hg1 := goZ_rg hW (2 * (j : Int) + 1)
      have hwo := wishN_or S j
      have hw1 : wishZ S j (moodN S j) = true → wishN S j = 1 := fun q => by unfold wishN; rw [if_pos q]
      have hw0 : ¬ wishZ S j (moodN S j) = true → wishN S j = 0 := fun q => by unfold wishN; rw [if_neg q]
      have s402 : ∀ b1 b2 b3, b1 = cntz (doP S 1) (j + 1) → b2 = cntz (doP S 0) (j + 1) → b3 = cntz (wiP S) (j + 1) → XJ none 6 kL_told h' 402 [some (.ref 0), some (.ref 145), some (vi x), some (vi TW), some (vi TE), some (vi b1), some (vi b2), some (vi b3), some (vi j), some (vi (bsum (heldP S j) (nG S))), some (vi (moodZ S j (bsum (heldP S j) (nG S)) 0))] [] Q := by
        intro b1 b2 b3 e1 e2 e3
        subst e1 e2 e3
        refine xj_aload_n (pc2 := 403) dL_told_402 rfl rfl rfl ?_
        refine xj_iload (pc2 := 405) dL_told_403 rfl rfl ?_
        refine xj_iconst (pc2 := 406) dL_told_405 rfl ?_
        refine xj_V2I (pc2 := 409) (d2 := 4) mok_X6_wearer ml_L_109 ima_yX6_wearer sel_yX6_wearer rfl rfl dL_told_406 rfl rfl (by decide) (by decide) (Nat.le_of_ble_eq_true rfl) (fun _ => rfl) ?_
        refine u_wearer hJ hgr (by omega) (v := S 4 j) (by unfold wearerZ; rw [if_neg (fun q => q hg)]; rfl) ?_
        intro h2 hJ
        have hL := hJ.2.2.1
        refine xj_aload_n (pc2 := 410) dL_told_409 rfl rfl rfl ?_
        refine xj_iconst (pc2 := 411) dL_told_410 rfl ?_
        refine xj_iload (pc2 := 413) dL_told_411 rfl rfl ?_
        refine xj_iadd (pc2 := 414) dL_told_413 rfl ?_
        refine xj_iald (pc2 := 415) dL_told_414 rfl rfl (by omega) (by omega) (rn0 hL hg (by omega)) ?_
        refine xj_cmp_ne (pc2 := 418) (tgt := 546) dL_told_415 rfl rfl (by omega) (by omega) (fun c_415 => by exfalso; omega) (fun c_415 => ?_)
        refine xj_aload_n (pc2 := 419) dL_told_418 rfl rfl rfl ?_
        refine xj_iload (pc2 := 421) dL_told_419 rfl rfl ?_
        refine xj_iconst (pc2 := 422) dL_told_421 rfl ?_
        refine xj_V2I (pc2 := 425) (d2 := 4) mok_X6_wearer ml_L_109 ima_yX6_wearer sel_yX6_wearer rfl rfl dL_told_422 rfl rfl (by decide) (by decide) (Nat.le_of_ble_eq_true rfl) (fun _ => rfl) ?_
        refine u_wearer hJ hgr (by omega) (v := moodZ S j (bsum (heldP S j) (nG S)) 0) (by unfold wearerZ; rw [if_neg (fun q => q hg)]; rfl) ?_
        intro h2 hJ
        have hL := hJ.2.2.1
        refine xj_iload (pc2 := 427) dL_told_425 rfl rfl ?_
        refine xj_cmp_ne (pc2 := 430) (tgt := 546) dL_told_427 rfl rfl (by omega) (by omega) (fun c_427 => by exfalso; omega) (fun c_427 => ?_)
        refine xj_aload_n (pc2 := 431) dL_told_430 rfl rfl rfl ?_
        refine xj_iload (pc2 := 433) dL_told_431 rfl rfl ?_
        refine xj_iconst (pc2 := 434) dL_told_433 rfl ?_
        refine xj_V2I (pc2 := 437) (d2 := 4) mok_X6_wearer ml_L_109 ima_yX6_wearer sel_yX6_wearer rfl rfl dL_told_434 rfl rfl (by decide) (by decide) (Nat.le_of_ble_eq_true rfl) (fun _ => rfl) ?_
        refine u_wearer hJ hgr (by omega) (v := goZ S (2 * (j : Int) + 0)) (by unfold wearerZ; rw [if_neg (fun q => q hg)]; rfl) ?_
        intro h2 hJ
        have hL := hJ.2.2.1
        refine xj_aload_n (pc2 := 438) dL_told_437 rfl rfl rfl ?_
        refine xj_iload (pc2 := 440) dL_told_438 rfl rfl ?_
        refine xj_iconst (pc2 := 441) dL_told_440 rfl ?_
        refine xj_S3I (pc2 := 444) (d2 := 0) mok_L_onHand ml_L_52 sta_yL_onHand dL_told_441 rfl rfl (by decide) (by decide) (Nat.le_of_ble_eq_true rfl) (fun _ => rfl) ?_
        refine c_L_onHand rfl hL hW (by omega) (by omega) ?_
        refine xj_cmp_ne (pc2 := 447) (tgt := 546) dL_told_444 rfl rfl (by omega) (by omega) (fun c_444 => by exfalso; omega) (fun c_444 => ?_)
        refine xj_aload_n (pc2 := 448) dL_told_447 rfl rfl rfl ?_
        refine xj_iload (pc2 := 450) dL_told_448 rfl rfl ?_
        refine xj_iconst (pc2 := 451) dL_told_450 rfl ?_
        refine xj_V2I (pc2 := 454) (d2 := 4) mok_X6_wearer ml_L_109 ima_yX6_wearer sel_yX6_wearer rfl rfl dL_told_451 rfl rfl (by decide) (by decide) (Nat.le_of_ble_eq_true rfl) (fun _ => rfl) ?_
        refine u_wearer hJ hgr (by omega) (v := goZ S (2 * (j : Int) + 1)) (by unfold wearerZ; rw [if_neg (fun q => q hg)]; rfl) ?_
        intro h2 hJ
        have hL := hJ.2.2.1
        refine xj_aload_n (pc2 := 455) dL_told_454 rfl rfl rfl ?_
        refine xj_iload (pc2 := 457) dL_told_455 rfl rfl ?_
        refine xj_iconst (pc2 := 458) dL_told_457 rfl ?_
        refine xj_S3I (pc2 := 461) (d2 := 0) mok_L_onHand ml_L_52 sta_yL_onHand dL_told_458 rfl rfl (by decide) (by decide) (Nat.le_of_ble_eq_true rfl) (fun _ => rfl) ?_
        refine c_L_onHand rfl hL hW (by omega) (by omega) ?_
        refine xj_cmp_ne (pc2 := 464) (tgt := 546) dL_told_461 rfl rfl (by omega) (by omega) (fun c_461 => by exfalso; omega) (fun c_461 => ?_)
        refine xj_aload_n (pc2 := 465) dL_told_464 rfl rfl rfl ?_
        refine xj_iload (pc2 := 467) dL_told_465 rfl rfl ?_
        refine xj_iconst (pc2 := 468) dL_told_467 rfl ?_
        refine xj_V2I (pc2 := 471) (d2 := 4) mok_X6_wearer ml_L_109 ima_yX6_wearer sel_yX6_wearer rfl rfl dL_told_468 rfl rfl (by decide) (by decide) (Nat.le_of_ble_eq_true rfl) (fun _ => rfl) ?_
        refine u_wearer hJ hgr (by omega) (v := doz (moodZ S j (bsum (heldP S j) (nG S)) 0)) (by unfold wearerZ; rw [if_neg (fun q => q hg)]; rfl) ?_
        intro h2 hJ
        have hL := hJ.2.2.1
        refine xj_iload (pc2 := 473) dL_told_471 rfl rfl ?_
        refine xj_S1I (pc2 := 476) (d2 := 0) mok_L_doing ml_L_43 sta_yL_doing dL_told_473 rfl rfl (by decide) (by decide) (Nat.le_of_ble_eq_true rfl) (fun _ => rfl) ?_
        refine c_L_doing (by omega) ?_
        refine xj_cmp_ne (pc2 := 479) (tgt := 546) dL_told_476 rfl rfl (by omega) (by omega) (fun c_476 => by exfalso; omega) (fun c_476 => ?_)
        refine xj_aload_n (pc2 := 480) dL_told_479 rfl rfl rfl ?_
        refine xj_iload (pc2 := 482) dL_told_480 rfl rfl ?_
        refine xj_iconst (pc2 := 483) dL_told_482 rfl ?_
        refine xj_V2I (pc2 := 486) (d2 := 4) mok_X6_wearer ml_L_109 ima_yX6_wearer sel_yX6_wearer rfl rfl dL_told_483 rfl rfl (by decide) (by decide) (Nat.le_of_ble_eq_true rfl) (fun _ => rfl) ?_
        refine u_wearer hJ hgr (by omega) (v := S 5 j) (by unfold wearerZ; rw [if_neg (fun q => q hg)]; rfl) ?_
        intro h2 hJ
        have hL := hJ.2.2.1
        refine xj_aload_n (pc2 := 487) dL_told_486 rfl rfl rfl ?_
        refine xj_bipush (pc2 := 489) dL_told_487 rfl (by decide) ?_
        refine xj_iload (pc2 := 491) dL_told_489 rfl rfl ?_
        refine xj_iadd (pc2 := 492) dL_told_491 rfl ?_
        refine xj_iald (pc2 := 493) dL_told_492 rfl rfl (by omega) (by omega) (rn1 hL hg (by omega)) ?_
        refine xj_cmp_ne (pc2 := 496) (tgt := 546) dL_told_493 rfl rfl (by omega) (by omega) (fun c_493 => by exfalso; omega) (fun c_493 => ?_)
        refine xj_aload_n (pc2 := 497) dL_told_496 rfl rfl rfl ?_
        refine xj_iload (pc2 := 499) dL_told_497 rfl rfl ?_
        refine xj_bipush (pc2 := 501) dL_told_499 rfl (by decide) ?_
        refine xj_V2I (pc2 := 504) (d2 := 4) mok_X6_wearer ml_L_109 ima_yX6_wearer sel_yX6_wearer rfl rfl dL_told_501 rfl rfl (by decide) (by decide) (Nat.le_of_ble_eq_true rfl) (fun _ => rfl) ?_
        refine u_wearer hJ hgr (by omega) (v := wishN S j) (by unfold wearerZ; rw [if_neg (fun q => q hg)]; rfl) ?_
        intro h2 hJ
        have hL := hJ.2.2.1
        refine xj_aload_n (pc2 := 505) dL_told_504 rfl rfl rfl ?_
        refine xj_iload (pc2 := 507) dL_told_505 rfl rfl ?_
        refine xj_iload (pc2 := 509) dL_told_507 rfl rfl ?_
        refine xj_S3I (pc2 := 512) (d2 := 4) mok_L_well ml_L_114 sta_yL_well dL_told_509 rfl rfl (by decide) (by decide) (Nat.le_of_ble_eq_true rfl) (fun _ => rfl) ?_
        refine c_L_well rfl hL hW hg ?_ ?_
        · -- L_well = 1
          intro c_509
          have e6 := hw1 c_509
          refine xj_if_eq (pc2 := 515) (tgt := 519) dL_told_512 rfl rfl (by omega) (fun c_512 => absurd c_512 (by decide)) (fun c_512 => ?_)
          refine xj_iconst (pc2 := 516) dL_told_515 rfl ?_
          refine xj_goto (tgt := 520) dL_told_516 rfl ?_
          refine xj_cmp_ne (pc2 := 523) (tgt := 546) dL_told_520 rfl rfl (by omega) (by omega) (fun c_520 => by exfalso; omega) (fun c_520 => ?_)
          refine xj_aload_n (pc2 := 524) dL_told_523 rfl rfl rfl ?_
          refine xj_iload (pc2 := 526) dL_told_524 rfl rfl ?_
          refine xj_iload_n (pc2 := 527) dL_told_526 rfl rfl rfl ?_
          refine xj_V2I (pc2 := 530) (d2 := 4) mok_X6_mood ml_L_112 ima_yX6_mood sel_yX6_mood rfl rfl dL_told_527 rfl rfl (by decide) (by decide) (Nat.le_of_ble_eq_true rfl) (fun _ => rfl) ?_
          refine u_mood hJ hgr (by omega) (v := moodZ S j (bsum (heldP S j) (nG S)) x) (by unfold moodV; rw [if_neg (fun q => q hg), if_neg (fun q => q hx)]) ?_
          intro h2 hJ
          have hL := hJ.2.2.1
          refine xj_aload_n (pc2 := 531) dL_told_530 rfl rfl rfl ?_
          refine xj_aload_n (pc2 := 532) dL_told_531 rfl rfl rfl ?_
          refine xj_iconst (pc2 := 533) dL_told_532 rfl ?_
          refine xj_iload (pc2 := 535) dL_told_533 rfl rfl ?_
          refine xj_iadd (pc2 := 536) dL_told_535 rfl ?_
          refine xj_iald (pc2 := 537) dL_told_536 rfl rfl (by omega) (by omega) (rn0 hL hg (by omega)) ?_
          refine xj_iload (pc2 := 539) dL_told_537 rfl rfl ?_
          refine xj_iload_n (pc2 := 540) dL_told_539 rfl rfl rfl ?_
          refine xj_S4I (pc2 := 543) (d2 := 3) mok_L_mood ml_L_39 sta_yL_mood dL_told_540 rfl rfl (by decide) (by decide) (Nat.le_of_ble_eq_true rfl) (fun _ => rfl) ?_
          refine c_L_mood rfl hL hW hg hx ?_
          refine xj_cmp_eq (pc2 := 546) (tgt := 548) dL_told_543 rfl rfl (by omega) (by omega) (fun c_543 => ?_) (fun c_543 => by exfalso; omega)
          refine xj_iinc8 (pc2 := 551) dL_told_548 rfl (by decide) rfl ?_
          refine xj_goto (tgt := 313) dL_told_551 rfl ?_
          exact xj_sub (by repeat (first | exact subL_nil | apply subL_none | apply subL_some rfl)) (ih _ hJ)
        · -- L_well = 0
          intro c_509
          have e6 := hw0 c_509
          refine xj_if_eq (pc2 := 515) (tgt := 519) dL_told_512 rfl rfl (by omega) (fun c_512 => ?_) (fun c_512 => absurd c_512 (by decide))
          refine xj_iconst (pc2 := 520) dL_told_519 rfl ?_
          refine xj_cmp_ne (pc2 := 523) (tgt := 546) dL_told_520 rfl rfl (by omega) (by omega) (fun c_520 => by exfalso; omega) (fun c_520 => ?_)
          refine xj_aload_n (pc2 := 524) dL_told_523 rfl rfl rfl ?_
          refine xj_iload (pc2 := 526) dL_told_524 rfl rfl ?_
          refine xj_iload_n (pc2 := 527) dL_told_526 rfl rfl rfl ?_
          refine xj_V2I (pc2 := 530) (d2 := 4) mok_X6_mood ml_L_112 ima_yX6_mood sel_yX6_mood rfl rfl dL_told_527 rfl rfl (by decide) (by decide) (Nat.le_of_ble_eq_true rfl) (fun _ => rfl) ?_
          refine u_mood hJ hgr (by omega) (v := moodZ S j (bsum (heldP S j) (nG S)) x) (by unfold moodV; rw [if_neg (fun q => q hg), if_neg (fun q => q hx)]) ?_
          intro h2 hJ
          have hL := hJ.2.2.1
          refine xj_aload_n (pc2 := 531) dL_told_530 rfl rfl rfl ?_
          refine xj_aload_n (pc2 := 532) dL_told_531 rfl rfl rfl ?_
          refine xj_iconst (pc2 := 533) dL_told_532 rfl ?_
          refine xj_iload (pc2 := 535) dL_told_533 rfl rfl ?_
          refine xj_iadd (pc2 := 536) dL_told_535 rfl ?_
          refine xj_iald (pc2 := 537) dL_told_536 rfl rfl (by omega) (by omega) (rn0 hL hg (by omega)) ?_
          refine xj_iload (pc2 := 539) dL_told_537 rfl rfl ?_
          refine xj_iload_n (pc2 := 540) dL_told_539 rfl rfl rfl ?_
          refine xj_S4I (pc2 := 543) (d2 := 3) mok_L_mood ml_L_39 sta_yL_mood dL_told_540 rfl rfl (by decide) (by decide) (Nat.le_of_ble_eq_true rfl) (fun _ => rfl) ?_
          refine c_L_mood rfl hL hW hg hx ?_
          refine xj_cmp_eq (pc2 := 546) (tgt := 548) dL_told_543 rfl rfl (by omega) (by omega) (fun c_543 => ?_) (fun c_543 => by exfalso; omega)
          refine xj_iinc8 (pc2 := 551) dL_told_548 rfl (by decide) rfl ?_
          refine xj_goto (tgt := 313) dL_told_551 rfl ?_
          exact xj_sub (by repeat (first | exact subL_nil | apply subL_none | apply subL_some rfl)) (ih _ hJ)
      refine xj_iload (pc2 := 315) dL_told_313 rfl rfl ?_
      refine xj_aload_n (pc2 := 316) dL_told_315 rfl rfl rfl ?_
      refine xj_iconst (pc2 := 317) dL_told_316 rfl ?_
      refine xj_iald (pc2 := 318) dL_told_317 rfl rfl (by omega) (by omega) hL.1.2 ?_
      refine xj_cmp_ge (pc2 := 321) (tgt := 554) dL_told_318 rfl rfl (by omega) (by omega) (fun c_318 => by exfalso; omega) (fun c_318 => ?_)
      refine xj_aload_n (pc2 := 322) dL_told_321 rfl rfl rfl ?_
      refine xj_iload (pc2 := 324) dL_told_322 rfl rfl ?_
      refine xj_S2I (pc2 := 327) (d2 := 0) mok_L_worn ml_L_58 sta_yL_worn dL_told_324 rfl rfl (by decide) (by decide) (Nat.le_of_ble_eq_true rfl) (fun _ => rfl) ?_
      refine c_L_worn rfl hL hW (by omega) ?_
      refine xj_istore9 (pc2 := 329) dL_told_327 rfl (by decide) rfl ?_
      refine xj_aload_n (pc2 := 330) dL_told_329 rfl rfl rfl ?_
      refine xj_aload_n (pc2 := 331) dL_told_330 rfl rfl rfl ?_
      refine xj_iconst (pc2 := 332) dL_told_331 rfl ?_
      refine xj_iload (pc2 := 334) dL_told_332 rfl rfl ?_
      refine xj_iadd (pc2 := 335) dL_told_334 rfl ?_
      refine xj_iald (pc2 := 336) dL_told_335 rfl rfl (by omega) (by omega) (rn0 hL hg (by omega)) ?_
      refine xj_iload (pc2 := 338) dL_told_336 rfl rfl ?_
      refine xj_iconst (pc2 := 339) dL_told_338 rfl ?_
      refine xj_S4I (pc2 := 342) (d2 := 3) mok_L_mood ml_L_39 sta_yL_mood dL_told_339 rfl rfl (by decide) (by decide) (Nat.le_of_ble_eq_true rfl) (fun _ => rfl) ?_
      refine c_L_mood rfl hL hW hg (by decide) ?_
      refine xj_istore10 (pc2 := 344) dL_told_342 rfl (by decide) rfl ?_
      refine xj_iload (pc2 := 346) dL_told_344 rfl rfl ?_
      refine xj_iload (pc2 := 348) dL_told_346 rfl rfl ?_
      refine xj_S1I (pc2 := 351) (d2 := 0) mok_L_doing ml_L_43 sta_yL_doing dL_told_348 rfl rfl (by decide) (by decide) (Nat.le_of_ble_eq_true rfl) (fun _ => rfl) ?_
      refine c_L_doing (by omega) ?_
      refine xj_iconst (pc2 := 352) dL_told_351 rfl ?_
      refine xj_cmp_ne (pc2 := 355) (tgt := 359) dL_told_352 rfl rfl (by omega) (by omega) (fun c_352 => ?_) (fun c_352 => ?_)
      · -- 359
        refine xj_iconst (pc2 := 360) dL_told_359 rfl ?_
        refine xj_iadd (pc2 := 361) dL_told_360 rfl ?_
        refine xj_istore5 (pc2 := 363) dL_told_361 rfl (by decide) rfl ?_
        refine xj_iload (pc2 := 365) dL_told_363 rfl rfl ?_
        refine xj_iload (pc2 := 367) dL_told_365 rfl rfl ?_
        refine xj_S1I (pc2 := 370) (d2 := 0) mok_L_doing ml_L_43 sta_yL_doing dL_told_367 rfl rfl (by decide) (by decide) (Nat.le_of_ble_eq_true rfl) (fun _ => rfl) ?_
        refine c_L_doing (by omega) ?_
        refine xj_if_ne (pc2 := 373) (tgt := 377) dL_told_370 rfl rfl (by omega) (fun c_370 => ?_) (fun c_370 => ?_)
        · -- 377
          refine xj_iconst (pc2 := 378) dL_told_377 rfl ?_
          refine xj_iadd (pc2 := 379) dL_told_378 rfl ?_
          refine xj_istore6 (pc2 := 381) dL_told_379 rfl (by decide) rfl ?_
          refine xj_iload (pc2 := 383) dL_told_381 rfl rfl ?_
          refine xj_aload_n (pc2 := 384) dL_told_383 rfl rfl rfl ?_
          refine xj_iload (pc2 := 386) dL_told_384 rfl rfl ?_
          refine xj_iload (pc2 := 388) dL_told_386 rfl rfl ?_
          refine xj_S3I (pc2 := 391) (d2 := 4) mok_L_well ml_L_114 sta_yL_well dL_told_388 rfl rfl (by decide) (by decide) (Nat.le_of_ble_eq_true rfl) (fun _ => rfl) ?_
          refine c_L_well rfl hL hW hg ?_ ?_
          · -- L_well = 1
            intro c_388
            refine xj_if_eq (pc2 := 394) (tgt := 398) dL_told_391 rfl rfl (by omega) (fun c_391 => absurd c_391 (by decide)) (fun c_391 => ?_)
            refine xj_iconst (pc2 := 395) dL_told_394 rfl ?_
            refine xj_goto (tgt := 399) dL_told_395 rfl ?_
            refine xj_iadd (pc2 := 400) dL_told_399 rfl ?_
            refine xj_istore7 (pc2 := 402) dL_told_400 rfl (by decide) rfl ?_
            refine s402 _ _ _ ?_ ?_ ?_
            · first
              | exact (cntz_t (q := doP S 1) (decide_eq_true c_352)).symm
              | exact (Int.add_zero _).trans (cntz_f (q := doP S 1) (decide_eq_false c_352)).symm
            · first
              | exact (cntz_t (q := doP S 0) (decide_eq_true c_370)).symm
              | exact (Int.add_zero _).trans (cntz_f (q := doP S 0) (decide_eq_false c_370)).symm
            · first
              | exact (cntz_t (q := wiP S) c_388).symm
              | exact (Int.add_zero _).trans (cntz_f (q := wiP S) (eq_false_of_ne_true c_388)).symm
          · -- L_well = 0
            intro c_388
            refine xj_if_eq (pc2 := 394) (tgt := 398) dL_told_391 rfl rfl (by omega) (fun c_391 => ?_) (fun c_391 => absurd c_391 (by decide))
            refine xj_iconst (pc2 := 399) dL_told_398 rfl ?_
            refine xj_iadd (pc2 := 400) dL_told_399 rfl ?_
            refine xj_istore7 (pc2 := 402) dL_told_400 rfl (by decide) rfl ?_
            refine s402 _ _ _ ?_ ?_ ?_
            · first
              | exact (cntz_t (q := doP S 1) (decide_eq_true c_352)).symm
              | exact (Int.add_zero _).trans (cntz_f (q := doP S 1) (decide_eq_false c_352)).symm
            · first
              | exact (cntz_t (q := doP S 0) (decide_eq_true c_370)).symm
              | exact (Int.add_zero _).trans (cntz_f (q := doP S 0) (decide_eq_false c_370)).symm
            · first
              | exact (cntz_t (q := wiP S) c_388).symm
              | exact (Int.add_zero _).trans (cntz_f (q := wiP S) (eq_false_of_ne_true c_388)).symm
        · -- 373
          refine xj_iconst (pc2 := 374) dL_told_373 rfl ?_
          refine xj_goto (tgt := 378) dL_told_374 rfl ?_
          refine xj_iadd (pc2 := 379) dL_told_378 rfl ?_
          refine xj_istore6 (pc2 := 381) dL_told_379 rfl (by decide) rfl ?_
          refine xj_iload (pc2 := 383) dL_told_381 rfl rfl ?_
          refine xj_aload_n (pc2 := 384) dL_told_383 rfl rfl rfl ?_
          refine xj_iload (pc2 := 386) dL_told_384 rfl rfl ?_
          refine xj_iload (pc2 := 388) dL_told_386 rfl rfl ?_
          refine xj_S3I (pc2 := 391) (d2 := 4) mok_L_well ml_L_114 sta_yL_well dL_told_388 rfl rfl (by decide) (by decide) (Nat.le_of_ble_eq_true rfl) (fun _ => rfl) ?_
          refine c_L_well rfl hL hW hg ?_ ?_
          · -- L_well = 1
            intro c_388
            refine xj_if_eq (pc2 := 394) (tgt := 398) dL_told_391 rfl rfl (by omega) (fun c_391 => absurd c_391 (by decide)) (fun c_391 => ?_)
            refine xj_iconst (pc2 := 395) dL_told_394 rfl ?_
            refine xj_goto (tgt := 399) dL_told_395 rfl ?_
            refine xj_iadd (pc2 := 400) dL_told_399 rfl ?_
            refine xj_istore7 (pc2 := 402) dL_told_400 rfl (by decide) rfl ?_
            refine s402 _ _ _ ?_ ?_ ?_
            · first
              | exact (cntz_t (q := doP S 1) (decide_eq_true c_352)).symm
              | exact (Int.add_zero _).trans (cntz_f (q := doP S 1) (decide_eq_false c_352)).symm
            · first
              | exact (cntz_t (q := doP S 0) (decide_eq_true c_370)).symm
              | exact (Int.add_zero _).trans (cntz_f (q := doP S 0) (decide_eq_false c_370)).symm
            · first
              | exact (cntz_t (q := wiP S) c_388).symm
              | exact (Int.add_zero _).trans (cntz_f (q := wiP S) (eq_false_of_ne_true c_388)).symm
          · -- L_well = 0
            intro c_388
            refine xj_if_eq (pc2 := 394) (tgt := 398) dL_told_391 rfl rfl (by omega) (fun c_391 => ?_) (fun c_391 => absurd c_391 (by decide))
            refine xj_iconst (pc2 := 399) dL_told_398 rfl ?_
            refine xj_iadd (pc2 := 400) dL_told_399 rfl ?_
            refine xj_istore7 (pc2 := 402) dL_told_400 rfl (by decide) rfl ?_
            refine s402 _ _ _ ?_ ?_ ?_
            · first
              | exact (cntz_t (q := doP S 1) (decide_eq_true c_352)).symm
              | exact (Int.add_zero _).trans (cntz_f (q := doP S 1) (decide_eq_false c_352)).symm
            · first
              | exact (cntz_t (q := doP S 0) (decide_eq_true c_370)).symm
              | exact (Int.add_zero _).trans (cntz_f (q := doP S 0) (decide_eq_false c_370)).symm
            · first
              | exact (cntz_t (q := wiP S) c_388).symm
              | exact (Int.add_zero _).trans (cntz_f (q := wiP S) (eq_false_of_ne_true c_388)).symm
      · -- 355
        refine xj_iconst (pc2 := 356) dL_told_355 rfl ?_
        refine xj_goto (tgt := 360) dL_told_356 rfl ?_
        refine xj_iadd (pc2 := 361) dL_told_360 rfl ?_
        refine xj_istore5 (pc2 := 363) dL_told_361 rfl (by decide) rfl ?_
        refine xj_iload (pc2 := 365) dL_told_363 rfl rfl ?_
        refine xj_iload (pc2 := 367) dL_told_365 rfl rfl ?_
        refine xj_S1I (pc2 := 370) (d2 := 0) mok_L_doing ml_L_43 sta_yL_doing dL_told_367 rfl rfl (by decide) (by decide) (Nat.le_of_ble_eq_true rfl) (fun _ => rfl) ?_
        refine c_L_doing (by omega) ?_
        refine xj_if_ne (pc2 := 373) (tgt := 377) dL_told_370 rfl rfl (by omega) (fun c_370 => ?_) (fun c_370 => ?_)
        · -- 377
          refine xj_iconst (pc2 := 378) dL_told_377 rfl ?_
          refine xj_iadd (pc2 := 379) dL_told_378 rfl ?_
          refine xj_istore6 (pc2 := 381) dL_told_379 rfl (by decide) rfl ?_
          refine xj_iload (pc2 := 383) dL_told_381 rfl rfl ?_
          refine xj_aload_n (pc2 := 384) dL_told_383 rfl rfl rfl ?_
          refine xj_iload (pc2 := 386) dL_told_384 rfl rfl ?_
          refine xj_iload (pc2 := 388) dL_told_386 rfl rfl ?_
          refine xj_S3I (pc2 := 391) (d2 := 4) mok_L_well ml_L_114 sta_yL_well dL_told_388 rfl rfl (by decide) (by decide) (Nat.le_of_ble_eq_true rfl) (fun _ => rfl) ?_
          refine c_L_well rfl hL hW hg ?_ ?_
          · -- L_well = 1
            intro c_388
            refine xj_if_eq (pc2 := 394) (tgt := 398) dL_told_391 rfl rfl (by omega) (fun c_391 => absurd c_391 (by decide)) (fun c_391 => ?_)
            refine xj_iconst (pc2 := 395) dL_told_394 rfl ?_
            refine xj_goto (tgt := 399) dL_told_395 rfl ?_
            refine xj_iadd (pc2 := 400) dL_told_399 rfl ?_
            refine xj_istore7 (pc2 := 402) dL_told_400 rfl (by decide) rfl ?_
            refine s402 _ _ _ ?_ ?_ ?_
            · first
              | exact (cntz_t (q := doP S 1) (decide_eq_true c_352)).symm
              | exact (Int.add_zero _).trans (cntz_f (q := doP S 1) (decide_eq_false c_352)).symm
            · first
              | exact (cntz_t (q := doP S 0) (decide_eq_true c_370)).symm
              | exact (Int.add_zero _).trans (cntz_f (q := doP S 0) (decide_eq_false c_370)).symm
            · first
              | exact (cntz_t (q := wiP S) c_388).symm
              | exact (Int.add_zero _).trans (cntz_f (q := wiP S) (eq_false_of_ne_true c_388)).symm
          · -- L_well = 0
            intro c_388
            refine xj_if_eq (pc2 := 394) (tgt := 398) dL_told_391 rfl rfl (by omega) (fun c_391 => ?_) (fun c_391 => absurd c_391 (by decide))
            refine xj_iconst (pc2 := 399) dL_told_398 rfl ?_
            refine xj_iadd (pc2 := 400) dL_told_399 rfl ?_
            refine xj_istore7 (pc2 := 402) dL_told_400 rfl (by decide) rfl ?_
            refine s402 _ _ _ ?_ ?_ ?_
            · first
              | exact (cntz_t (q := doP S 1) (decide_eq_true c_352)).symm
              | exact (Int.add_zero _).trans (cntz_f (q := doP S 1) (decide_eq_false c_352)).symm
            · first
              | exact (cntz_t (q := doP S 0) (decide_eq_true c_370)).symm
              | exact (Int.add_zero _).trans (cntz_f (q := doP S 0) (decide_eq_false c_370)).symm
            · first
              | exact (cntz_t (q := wiP S) c_388).symm
              | exact (Int.add_zero _).trans (cntz_f (q := wiP S) (eq_false_of_ne_true c_388)).symm
        · -- 373
          refine xj_iconst (pc2 := 374) dL_told_373 rfl ?_
          refine xj_goto (tgt := 378) dL_told_374 rfl ?_
          refine xj_iadd (pc2 := 379) dL_told_378 rfl ?_
          refine xj_istore6 (pc2 := 381) dL_told_379 rfl (by decide) rfl ?_
          refine xj_iload (pc2 := 383) dL_told_381 rfl rfl ?_
          refine xj_aload_n (pc2 := 384) dL_told_383 rfl rfl rfl ?_
          refine xj_iload (pc2 := 386) dL_told_384 rfl rfl ?_
          refine xj_iload (pc2 := 388) dL_told_386 rfl rfl ?_
          refine xj_S3I (pc2 := 391) (d2 := 4) mok_L_well ml_L_114 sta_yL_well dL_told_388 rfl rfl (by decide) (by decide) (Nat.le_of_ble_eq_true rfl) (fun _ => rfl) ?_
          refine c_L_well rfl hL hW hg ?_ ?_
          · -- L_well = 1
            intro c_388
            refine xj_if_eq (pc2 := 394) (tgt := 398) dL_told_391 rfl rfl (by omega) (fun c_391 => absurd c_391 (by decide)) (fun c_391 => ?_)
            refine xj_iconst (pc2 := 395) dL_told_394 rfl ?_
            refine xj_goto (tgt := 399) dL_told_395 rfl ?_
            refine xj_iadd (pc2 := 400) dL_told_399 rfl ?_
            refine xj_istore7 (pc2 := 402) dL_told_400 rfl (by decide) rfl ?_
            refine s402 _ _ _ ?_ ?_ ?_
            · first
              | exact (cntz_t (q := doP S 1) (decide_eq_true c_352)).symm
              | exact (Int.add_zero _).trans (cntz_f (q := doP S 1) (decide_eq_false c_352)).symm
            · first
              | exact (cntz_t (q := doP S 0) (decide_eq_true c_370)).symm
              | exact (Int.add_zero _).trans (cntz_f (q := doP S 0) (decide_eq_false c_370)).symm
            · first
              | exact (cntz_t (q := wiP S) c_388).symm
              | exact (Int.add_zero _).trans (cntz_f (q := wiP S) (eq_false_of_ne_true c_388)).symm
          · -- L_well = 0
            intro c_388
            refine xj_if_eq (pc2 := 394) (tgt := 398) dL_told_391 rfl rfl (by omega) (fun c_391 => ?_) (fun c_391 => absurd c_391 (by decide))
            refine xj_iconst (pc2 := 399) dL_told_398 rfl ?_
            refine xj_iadd (pc2 := 400) dL_told_399 rfl ?_
            refine xj_istore7 (pc2 := 402) dL_told_400 rfl (by decide) rfl ?_
            refine s402 _ _ _ ?_ ?_ ?_
            · first
              | exact (cntz_t (q := doP S 1) (decide_eq_true c_352)).symm
              | exact (Int.add_zero _).trans (cntz_f (q := doP S 1) (decide_eq_false c_352)).symm
            · first
              | exact (cntz_t (q := doP S 0) (decide_eq_true c_370)).symm
              | exact (Int.add_zero _).trans (cntz_f (q := doP S 0) (decide_eq_false c_370)).symm
            · first
              | exact (cntz_t (q := wiP S) c_388).symm
              | exact (Int.add_zero _).trans (cntz_f (q := wiP S) (eq_false_of_ne_true c_388)).symm
  -- the gloves
  refine cj_of (lo := [some (.ref 0), some (.ref 145), some (vi x), none, none, none, none, none, none, none, none]) mok_L_told (fun _ => rfl) (fun _ => Nat.le_of_ble_eq_true rfl) ?_
  refine xj_iconst (pc2 := 1) dL_told_0 rfl ?_
  refine xj_istore3 (pc2 := 2) dL_told_1 rfl rfl (by decide) rfl ?_
  refine xj_iconst (pc2 := 3) dL_told_2 rfl ?_
  refine xj_istore4 (pc2 := 5) dL_told_3 rfl (by decide) rfl ?_
  refine xj_iconst (pc2 := 6) dL_told_5 rfl ?_
  refine xj_istore5 (pc2 := 8) dL_told_6 rfl (by decide) rfl ?_
  refine down (P := fun k => ∀ h', JJ S I pg tr h' → ∀ t u, t = ssum (fun g => cntz (quarP S g) g) k → u = ssum (fun g => tz S g 0) k → XJ none 6 kL_told h' 8 [some (.ref 0), some (.ref 145), some (vi x), some (vi t), some (vi u), some (vi k), none, none, none, none, none] [] Q) (n := nG S) ?_ ?_ h hJ 0 0 rfl rfl
  · intro h' hJ t u ht hu
    have hL := hJ.2.2.1
    refine xj_iload (pc2 := 10) dL_told_8 rfl rfl ?_
    refine xj_aload_n (pc2 := 11) dL_told_10 rfl rfl rfl ?_
    refine xj_iconst (pc2 := 12) dL_told_11 rfl ?_
    refine xj_iald (pc2 := 13) dL_told_12 rfl rfl (by omega) (by omega) hL.1.1 ?_
    refine xj_cmp_ge (pc2 := 16) (tgt := 301) dL_told_13 rfl rfl (by omega) (by omega) (fun c_13 => ?_) (fun c_13 => by exfalso; omega)
    refine xj_iconst (pc2 := 302) dL_told_301 rfl ?_
    refine xj_istore5 (pc2 := 304) dL_told_302 rfl (by decide) rfl ?_
    refine xj_iconst (pc2 := 305) dL_told_304 rfl ?_
    refine xj_istore6 (pc2 := 307) dL_told_305 rfl (by decide) rfl ?_
    refine xj_iconst (pc2 := 308) dL_told_307 rfl ?_
    refine xj_istore7 (pc2 := 310) dL_told_308 rfl (by decide) rfl ?_
    refine xj_iconst (pc2 := 311) dL_told_310 rfl ?_
    refine xj_istore8 (pc2 := 313) dL_told_311 rfl (by decide) rfl ?_
    rw [ht, hu]
    exact xj_sub (by repeat (first | exact subL_nil | apply subL_none | apply subL_some rfl)) (s313 h' hJ)
  · intro k hk ih h' hJ t u ht hu
    have hL := hJ.2.2.1
    have hg : 0 ≤ (k : Int) ∧ (k : Int) < S 6 0 := by omega
    have hgr : -2147483648 ≤ (k : Int) ∧ (k : Int) ≤ 2147483647 := by omega
    have hwg := wf_g hW hg
    have hhb := hold_b hW hg
    have hsb := side_b hW hg
    have htz := tz_rg hW hg (m := 0) (by decide)
    have hbq := bsum_le6 (p := quarP S k) (n := nG S) (by omega)
    have hpm := pm_all (S := S) hs3 k
    -- as
    have s236 : ∀ h', JJ S I pg tr h' → XJ none 6 kL_told h' 236 [some (.ref 0), some (.ref 145), some (vi x), some (vi (t + cntz (quarP S k) k)), some (vi (u + tz S k 0)), some (vi k), some (vi (9 + 5 * (k : Int))), some (vi (bsum (quarP S k) (nG S))), some (vi 0), none, none] [] Q := by
      refine down (P := fun c => ∀ h', JJ S I pg tr h' → XJ none 6 kL_told h' 236 [some (.ref 0), some (.ref 145), some (vi x), some (vi (t + cntz (quarP S k) k)), some (vi (u + tz S k 0)), some (vi k), some (vi (9 + 5 * (k : Int))), some (vi (bsum (quarP S k) (nG S))), some (vi c), none, none] [] Q) (n := 5) ?_ ?_
      · intro h' hJ
        refine xj_iload (pc2 := 238) dL_told_236 rfl rfl ?_
        refine xj_iconst (pc2 := 239) dL_told_238 rfl ?_
        refine xj_cmp_ge (pc2 := 242) (tgt := 295) dL_told_239 rfl rfl (by omega) (by omega) (fun c_239 => ?_) (fun c_239 => by exfalso; omega)
        refine xj_iinc5 (pc2 := 298) dL_told_295 rfl (by decide) rfl ?_
        refine xj_goto (tgt := 8) dL_told_298 rfl ?_
        exact xj_sub (by repeat (first | exact subL_nil | apply subL_none | apply subL_some rfl)) (ih h' hJ _ _ (by rw [ssum_s, ht]) (by rw [ssum_s, hu]))
      · intro c hc ih2 h' hJ
        have hL := hJ.2.2.1
        have hao := asZ_or (S := S) k c hg (by omega)
        generalize hA : asZ S k c = A at hao
        refine xj_iload (pc2 := 238) dL_told_236 rfl rfl ?_
        refine xj_iconst (pc2 := 239) dL_told_238 rfl ?_
        refine xj_cmp_ge (pc2 := 242) (tgt := 295) dL_told_239 rfl rfl (by omega) (by omega) (fun c_239 => by exfalso; omega) (fun c_239 => ?_)
        refine xj_aload_n (pc2 := 243) dL_told_242 rfl rfl rfl ?_
        refine xj_iload (pc2 := 245) dL_told_243 rfl rfl ?_
        refine xj_iload (pc2 := 247) dL_told_245 rfl rfl ?_
        refine xj_V2I (pc2 := 250) (d2 := 1) mok_X6_as ml_L_106 ima_yX6_as sel_yX6_as rfl rfl dL_told_247 rfl rfl (by decide) (by decide) (Nat.le_of_ble_eq_true rfl) (fun _ => rfl) ?_
        refine u_as hJ hgr (by omega) (v := A) hA ?_
        intro h2 hJ
        have hL := hJ.2.2.1
        refine xj_iload (pc2 := 252) dL_told_250 rfl rfl ?_
        refine xj_if_eq (pc2 := 255) (tgt := 278) dL_told_252 rfl rfl (by omega) (fun c_252 => ?_) (fun c_252 => ?_)
        · -- 278
          refine xj_iload (pc2 := 280) dL_told_278 rfl rfl ?_
          refine xj_goto (tgt := 284) dL_told_280 rfl ?_
          refine xj_cmp_eq (pc2 := 287) (tgt := 289) dL_told_284 rfl rfl (by omega) (by omega) (fun c_284 => ?_) (fun c_284 => by exfalso; omega)
          refine xj_iinc8 (pc2 := 292) dL_told_289 rfl (by decide) rfl ?_
          refine xj_goto (tgt := 236) dL_told_292 rfl ?_
          exact ih2 h2 hJ
        · -- 255
          refine xj_iload (pc2 := 257) dL_told_255 rfl rfl ?_
          refine xj_aload_n (pc2 := 258) dL_told_257 rfl rfl rfl ?_
          refine xj_iload (pc2 := 260) dL_told_258 rfl rfl ?_
          refine xj_iald (pc2 := 261) dL_told_260 rfl rfl (by omega) (by omega) (rk0 hL hg (by omega)) ?_
          refine xj_cmp_eq (pc2 := 264) (tgt := 278) dL_told_261 rfl rfl (by omega) (by omega) (fun c_261 => ?_) (fun c_261 => ?_)
          · -- 278
            refine xj_iload (pc2 := 280) dL_told_278 rfl rfl ?_
            refine xj_goto (tgt := 284) dL_told_280 rfl ?_
            refine xj_cmp_eq (pc2 := 287) (tgt := 289) dL_told_284 rfl rfl (by omega) (by omega) (fun c_284 => ?_) (fun c_284 => by exfalso; omega)
            refine xj_iinc8 (pc2 := 292) dL_told_289 rfl (by decide) rfl ?_
            refine xj_goto (tgt := 236) dL_told_292 rfl ?_
            exact ih2 h2 hJ
          · -- 264
            refine xj_iload (pc2 := 266) dL_told_264 rfl rfl ?_
            refine xj_iconst (pc2 := 267) dL_told_266 rfl ?_
            refine xj_cmp_ne (pc2 := 270) (tgt := 283) dL_told_267 rfl rfl (by omega) (by omega) (fun c_267 => ?_) (fun c_267 => ?_)
            · -- 283
              refine xj_iconst (pc2 := 284) dL_told_283 rfl ?_
              refine xj_cmp_eq (pc2 := 287) (tgt := 289) dL_told_284 rfl rfl (by omega) (by omega) (fun c_284 => ?_) (fun c_284 => by exfalso; omega)
              refine xj_iinc8 (pc2 := 292) dL_told_289 rfl (by decide) rfl ?_
              refine xj_goto (tgt := 236) dL_told_292 rfl ?_
              exact ih2 h2 hJ
            · -- 270
              refine xj_aload_n (pc2 := 271) dL_told_270 rfl rfl rfl ?_
              refine xj_iload (pc2 := 273) dL_told_271 rfl rfl ?_
              refine xj_iald (pc2 := 274) dL_told_273 rfl rfl (by omega) (by omega) (rk0 hL hg (by omega)) ?_
              refine xj_iconst (pc2 := 275) dL_told_274 rfl ?_
              refine xj_cmp_ne (pc2 := 278) (tgt := 283) dL_told_275 rfl rfl (by omega) (by omega) (fun c_275 => ?_) (fun c_275 => ?_)
              · -- 283
                refine xj_iconst (pc2 := 284) dL_told_283 rfl ?_
                refine xj_cmp_eq (pc2 := 287) (tgt := 289) dL_told_284 rfl rfl (by omega) (by omega) (fun c_284 => ?_) (fun c_284 => by exfalso; omega)
                refine xj_iinc8 (pc2 := 292) dL_told_289 rfl (by decide) rfl ?_
                refine xj_goto (tgt := 236) dL_told_292 rfl ?_
                exact ih2 h2 hJ
              · -- 278
                refine xj_iload (pc2 := 280) dL_told_278 rfl rfl ?_
                refine xj_goto (tgt := 284) dL_told_280 rfl ?_
                refine xj_cmp_eq (pc2 := 287) (tgt := 289) dL_told_284 rfl rfl (by omega) (by omega) (fun c_284 => ?_) (fun c_284 => by exfalso; omega)
                refine xj_iinc8 (pc2 := 292) dL_told_289 rfl (by decide) rfl ?_
                refine xj_goto (tgt := 236) dL_told_292 rfl ?_
                exact ih2 h2 hJ
    -- its fields
    have s97 : XJ none 6 kL_told h' 97 [some (.ref 0), some (.ref 145), some (vi x), some (vi (t + cntz (quarP S k) k)), some (vi u), some (vi k), some (vi (9 + 5 * (k : Int))), some (vi (bsum (quarP S k) (nG S))), none, none, none] [] Q := by
      refine xj_iload (pc2 := 99) dL_told_97 rfl rfl ?_
      refine xj_aload_n (pc2 := 100) dL_told_99 rfl rfl rfl ?_
      refine xj_iload (pc2 := 102) dL_told_100 rfl rfl ?_
      refine xj_iconst (pc2 := 103) dL_told_102 rfl ?_
      refine xj_S3I (pc2 := 106) (d2 := 1) mok_L_then ml_L_31 sta_yL_then dL_told_103 rfl rfl (by decide) (by decide) (Nat.le_of_ble_eq_true rfl) (fun _ => rfl) ?_
      refine c_L_then rfl hL hW (by omega) (by omega) ?_
      refine xj_iadd (pc2 := 107) dL_told_106 rfl ?_
      refine xj_istore4 (pc2 := 109) dL_told_107 rfl (by decide) rfl ?_
      refine xj_aload_n (pc2 := 110) dL_told_109 rfl rfl rfl ?_
      refine xj_iload (pc2 := 112) dL_told_110 rfl rfl ?_
      refine xj_iconst (pc2 := 113) dL_told_112 rfl ?_
      refine xj_V2I (pc2 := 116) (d2 := 4) mok_X6_glove ml_L_103 ima_yX6_glove sel_yX6_glove rfl rfl dL_told_113 rfl rfl (by decide) (by decide) (Nat.le_of_ble_eq_true rfl) (fun _ => rfl) ?_
      refine u_glove hJ hgr (by omega) (v := S 0 k) (by unfold gloveZ; rw [if_neg (fun q => q hg)]; rfl) ?_
      intro h2 hJ
      have hL := hJ.2.2.1
      refine xj_aload_n (pc2 := 117) dL_told_116 rfl rfl rfl ?_
      refine xj_iload (pc2 := 119) dL_told_117 rfl rfl ?_
      refine xj_iald (pc2 := 120) dL_told_119 rfl rfl (by omega) (by omega) (rk0 hL hg (by omega)) ?_
      refine xj_cmp_ne (pc2 := 123) (tgt := 231) dL_told_120 rfl rfl (by omega) (by omega) (fun c_120 => by exfalso; omega) (fun c_120 => ?_)
      refine xj_aload_n (pc2 := 124) dL_told_123 rfl rfl rfl ?_
      refine xj_iload (pc2 := 126) dL_told_124 rfl rfl ?_
      refine xj_iconst (pc2 := 127) dL_told_126 rfl ?_
      refine xj_V2I (pc2 := 130) (d2 := 4) mok_X6_glove ml_L_103 ima_yX6_glove sel_yX6_glove rfl rfl dL_told_127 rfl rfl (by decide) (by decide) (Nat.le_of_ble_eq_true rfl) (fun _ => rfl) ?_
      refine u_glove hJ hgr (by omega) (v := S 1 k) (by unfold gloveZ; rw [if_neg (fun q => q hg)]; rfl) ?_
      intro h2 hJ
      have hL := hJ.2.2.1
      refine xj_aload_n (pc2 := 131) dL_told_130 rfl rfl rfl ?_
      refine xj_iload (pc2 := 133) dL_told_131 rfl rfl ?_
      refine xj_iconst (pc2 := 134) dL_told_133 rfl ?_
      refine xj_iadd (pc2 := 135) dL_told_134 rfl ?_
      refine xj_iald (pc2 := 136) dL_told_135 rfl rfl (by omega) (by omega) (rk1 hL hg (by omega)) ?_
      refine xj_cmp_ne (pc2 := 139) (tgt := 231) dL_told_136 rfl rfl (by omega) (by omega) (fun c_136 => by exfalso; omega) (fun c_136 => ?_)
      refine xj_aload_n (pc2 := 140) dL_told_139 rfl rfl rfl ?_
      refine xj_iload (pc2 := 142) dL_told_140 rfl rfl ?_
      refine xj_iconst (pc2 := 143) dL_told_142 rfl ?_
      refine xj_V2I (pc2 := 146) (d2 := 4) mok_X6_glove ml_L_103 ima_yX6_glove sel_yX6_glove rfl rfl dL_told_143 rfl rfl (by decide) (by decide) (Nat.le_of_ble_eq_true rfl) (fun _ => rfl) ?_
      refine u_glove hJ hgr (by omega) (v := S 2 k) (by unfold gloveZ; rw [if_neg (fun q => q hg)]; rfl) ?_
      intro h2 hJ
      have hL := hJ.2.2.1
      refine xj_aload_n (pc2 := 147) dL_told_146 rfl rfl rfl ?_
      refine xj_iload (pc2 := 149) dL_told_147 rfl rfl ?_
      refine xj_iconst (pc2 := 150) dL_told_149 rfl ?_
      refine xj_iadd (pc2 := 151) dL_told_150 rfl ?_
      refine xj_iald (pc2 := 152) dL_told_151 rfl rfl (by omega) (by omega) (rk2 hL hg (by omega)) ?_
      refine xj_cmp_ne (pc2 := 155) (tgt := 231) dL_told_152 rfl rfl (by omega) (by omega) (fun c_152 => by exfalso; omega) (fun c_152 => ?_)
      refine xj_aload_n (pc2 := 156) dL_told_155 rfl rfl rfl ?_
      refine xj_iload (pc2 := 158) dL_told_156 rfl rfl ?_
      refine xj_iconst (pc2 := 159) dL_told_158 rfl ?_
      refine xj_V2I (pc2 := 162) (d2 := 4) mok_X6_glove ml_L_103 ima_yX6_glove sel_yX6_glove rfl rfl dL_told_159 rfl rfl (by decide) (by decide) (Nat.le_of_ble_eq_true rfl) (fun _ => rfl) ?_
      refine u_glove hJ hgr (by omega) (v := tz S k 0) (by unfold gloveZ; rw [if_neg (fun q => q hg)]; rfl) ?_
      intro h2 hJ
      have hL := hJ.2.2.1
      refine xj_aload_n (pc2 := 163) dL_told_162 rfl rfl rfl ?_
      refine xj_iload (pc2 := 165) dL_told_163 rfl rfl ?_
      refine xj_iconst (pc2 := 166) dL_told_165 rfl ?_
      refine xj_S3I (pc2 := 169) (d2 := 1) mok_L_then ml_L_31 sta_yL_then dL_told_166 rfl rfl (by decide) (by decide) (Nat.le_of_ble_eq_true rfl) (fun _ => rfl) ?_
      refine c_L_then rfl hL hW (by omega) (by omega) ?_
      refine xj_cmp_ne (pc2 := 172) (tgt := 231) dL_told_169 rfl rfl (by omega) (by omega) (fun c_169 => by exfalso; omega) (fun c_169 => ?_)
      refine xj_aload_n (pc2 := 173) dL_told_172 rfl rfl rfl ?_
      refine xj_iload (pc2 := 175) dL_told_173 rfl rfl ?_
      refine xj_iconst (pc2 := 176) dL_told_175 rfl ?_
      refine xj_V2I (pc2 := 179) (d2 := 4) mok_X6_glove ml_L_103 ima_yX6_glove sel_yX6_glove rfl rfl dL_told_176 rfl rfl (by decide) (by decide) (Nat.le_of_ble_eq_true rfl) (fun _ => rfl) ?_
      refine u_glove hJ hgr (by omega) (v := hold (S 3 k)) (by unfold gloveZ; rw [if_neg (fun q => q hg)]; rfl) ?_
      intro h2 hJ
      have hL := hJ.2.2.1
      refine xj_aload_n (pc2 := 180) dL_told_179 rfl rfl rfl ?_
      refine xj_iload (pc2 := 182) dL_told_180 rfl rfl ?_
      refine xj_iconst (pc2 := 183) dL_told_182 rfl ?_
      refine xj_iadd (pc2 := 184) dL_told_183 rfl ?_
      refine xj_iald (pc2 := 185) dL_told_184 rfl rfl (by omega) (by omega) (rk3 hL hg (by omega)) ?_
      refine xj_cmp_ne (pc2 := 188) (tgt := 231) dL_told_185 rfl rfl (by omega) (by omega) (fun c_185 => by exfalso; omega) (fun c_185 => ?_)
      refine xj_aload_n (pc2 := 189) dL_told_188 rfl rfl rfl ?_
      refine xj_iload (pc2 := 191) dL_told_189 rfl rfl ?_
      refine xj_iconst (pc2 := 192) dL_told_191 rfl ?_
      refine xj_V2I (pc2 := 195) (d2 := 4) mok_X6_glove ml_L_103 ima_yX6_glove sel_yX6_glove rfl rfl dL_told_192 rfl rfl (by decide) (by decide) (Nat.le_of_ble_eq_true rfl) (fun _ => rfl) ?_
      refine u_glove hJ hgr (by omega) (v := side (S 3 k)) (by unfold gloveZ; rw [if_neg (fun q => q hg)]; rfl) ?_
      intro h2 hJ
      have hL := hJ.2.2.1
      refine xj_aload_n (pc2 := 196) dL_told_195 rfl rfl rfl ?_
      refine xj_iload (pc2 := 198) dL_told_196 rfl rfl ?_
      refine xj_iconst (pc2 := 199) dL_told_198 rfl ?_
      refine xj_iadd (pc2 := 200) dL_told_199 rfl ?_
      refine xj_iald (pc2 := 201) dL_told_200 rfl rfl (by omega) (by omega) (rk4 hL hg (by omega)) ?_
      refine xj_cmp_ne (pc2 := 204) (tgt := 231) dL_told_201 rfl rfl (by omega) (by omega) (fun c_201 => by exfalso; omega) (fun c_201 => ?_)
      refine xj_aload_n (pc2 := 205) dL_told_204 rfl rfl rfl ?_
      refine xj_iload (pc2 := 207) dL_told_205 rfl rfl ?_
      refine xj_bipush (pc2 := 209) dL_told_207 rfl (by decide) ?_
      refine xj_V2I (pc2 := 212) (d2 := 4) mok_X6_glove ml_L_103 ima_yX6_glove sel_yX6_glove rfl rfl dL_told_209 rfl rfl (by decide) (by decide) (Nat.le_of_ble_eq_true rfl) (fun _ => rfl) ?_
      refine u_glove hJ hgr (by omega) (v := bsum (quarP S k) (nG S)) (by unfold gloveZ; rw [if_neg (fun q => q hg)]; rfl) ?_
      intro h2 hJ
      have hL := hJ.2.2.1
      refine xj_iload (pc2 := 214) dL_told_212 rfl rfl ?_
      refine xj_cmp_ne (pc2 := 217) (tgt := 231) dL_told_214 rfl rfl (by omega) (by omega) (fun c_214 => by exfalso; omega) (fun c_214 => ?_)
      refine xj_aload_n (pc2 := 218) dL_told_217 rfl rfl rfl ?_
      refine xj_iload (pc2 := 220) dL_told_218 rfl rfl ?_
      refine xj_bipush (pc2 := 222) dL_told_220 rfl (by decide) ?_
      refine xj_V2I (pc2 := 225) (d2 := 4) mok_X6_glove ml_L_103 ima_yX6_glove sel_yX6_glove rfl rfl dL_told_222 rfl rfl (by decide) (by decide) (Nat.le_of_ble_eq_true rfl) (fun _ => rfl) ?_
      refine u_glove hJ hgr (by omega) (v := 1023) (by unfold gloveZ; rw [if_neg (fun q => q hg)]; exact hpm) ?_
      intro h2 hJ
      have hL := hJ.2.2.1
      refine xj_sipush (pc2 := 228) dL_told_225 rfl (by decide) ?_
      refine xj_cmp_eq (pc2 := 231) (tgt := 233) dL_told_228 rfl rfl (by omega) (by omega) (fun c_228 => ?_) (fun c_228 => by exfalso; omega)
      refine xj_iconst (pc2 := 234) dL_told_233 rfl ?_
      refine xj_istore8 (pc2 := 236) dL_told_234 rfl (by decide) rfl ?_
      exact s236 _ hJ
    refine xj_iload (pc2 := 10) dL_told_8 rfl rfl ?_
    refine xj_aload_n (pc2 := 11) dL_told_10 rfl rfl rfl ?_
    refine xj_iconst (pc2 := 12) dL_told_11 rfl ?_
    refine xj_iald (pc2 := 13) dL_told_12 rfl rfl (by omega) (by omega) hL.1.1 ?_
    refine xj_cmp_ge (pc2 := 16) (tgt := 301) dL_told_13 rfl rfl (by omega) (by omega) (fun c_13 => by exfalso; omega) (fun c_13 => ?_)
    refine xj_bipush (pc2 := 18) dL_told_16 rfl (by decide) ?_
    refine xj_iconst (pc2 := 19) dL_told_18 rfl ?_
    refine xj_iload (pc2 := 21) dL_told_19 rfl rfl ?_
    refine xj_imul (pc2 := 22) dL_told_21 rfl ?_
    refine xj_iadd (pc2 := 23) dL_told_22 rfl ?_
    refine xj_istore6 (pc2 := 25) dL_told_23 rfl (by decide) rfl ?_
    refine xj_iconst (pc2 := 26) dL_told_25 rfl ?_
    refine xj_istore7 (pc2 := 28) dL_told_26 rfl (by decide) rfl ?_
    refine xj_iconst (pc2 := 29) dL_told_28 rfl ?_
    refine xj_istore8 (pc2 := 31) dL_told_29 rfl (by decide) rfl ?_
    refine down (P := fun n => ∀ t', t' = t + cntz (quarP S k) (min n k) → XJ none 6 kL_told h' 31 [some (.ref 0), some (.ref 145), some (vi x), some (vi t'), some (vi u), some (vi k), some (vi (9 + 5 * (k : Int))), some (vi (bsum (quarP S k) n)), some (vi n), none, none] [] Q) (n := nG S) ?_ ?_ t (by rw [Nat.min_eq_left (Nat.zero_le k)]; simp [cntz])
    · intro t' ht'
      rw [Nat.min_eq_right (by omega)] at ht'
      subst ht'
      refine xj_iload (pc2 := 33) dL_told_31 rfl rfl ?_
      refine xj_aload_n (pc2 := 34) dL_told_33 rfl rfl rfl ?_
      refine xj_iconst (pc2 := 35) dL_told_34 rfl ?_
      refine xj_iald (pc2 := 36) dL_told_35 rfl rfl (by omega) (by omega) hL.1.1 ?_
      refine xj_cmp_ge (pc2 := 39) (tgt := 97) dL_told_36 rfl rfl (by omega) (by omega) (fun c_36 => ?_) (fun c_36 => by exfalso; omega)
      exact xj_sub (by repeat (first | exact subL_nil | apply subL_none | apply subL_some rfl)) s97
    · intro n hn ih2 t' ht'
      have hbn := bsum_le6 (p := quarP S k) (n := n) (by omega)
      refine xj_iload (pc2 := 33) dL_told_31 rfl rfl ?_
      refine xj_aload_n (pc2 := 34) dL_told_33 rfl rfl rfl ?_
      refine xj_iconst (pc2 := 35) dL_told_34 rfl ?_
      refine xj_iald (pc2 := 36) dL_told_35 rfl rfl (by omega) (by omega) hL.1.1 ?_
      refine xj_cmp_ge (pc2 := 39) (tgt := 97) dL_told_36 rfl rfl (by omega) (by omega) (fun c_36 => by exfalso; omega) (fun c_36 => ?_)
      refine xj_iload (pc2 := 41) dL_told_39 rfl rfl ?_
      refine xj_aload_n (pc2 := 42) dL_told_41 rfl rfl rfl ?_
      refine xj_iload (pc2 := 44) dL_told_42 rfl rfl ?_
      refine xj_iload (pc2 := 46) dL_told_44 rfl rfl ?_
      refine xj_iconst (pc2 := 47) dL_told_46 rfl ?_
      refine xj_S4I (pc2 := 50) (d2 := 2) mok_L_quarrel ml_L_35 sta_yL_quarrel dL_told_47 rfl rfl (by decide) (by decide) (Nat.le_of_ble_eq_true rfl) (fun _ => rfl) ?_
      refine c_L_quarrel rfl hL hW (by omega) (by omega) (by omega) ?_ ?_
      · -- L_quarrel = 1
        intro c_47
        refine xj_if_eq (pc2 := 53) (tgt := 60) dL_told_50 rfl rfl (by omega) (fun c_50 => absurd c_50 (by decide)) (fun c_50 => ?_)
        refine xj_iconst (pc2 := 54) dL_told_53 rfl ?_
        refine xj_iload (pc2 := 56) dL_told_54 rfl rfl ?_
        refine xj_ishl (pc2 := 57) dL_told_56 rfl ?_
        refine xj_goto (tgt := 61) dL_told_57 rfl ?_
        refine xj_ior (pc2 := 62) dL_told_61 rfl ?_
        first
        | rw [bs_t (qz_t c_47) (by omega)]
        | rw [bor_0 (by omega), bs_f (qz_f c_47)]
        refine xj_istore7 (pc2 := 64) dL_told_62 rfl (by decide) rfl ?_
        refine xj_iload_n (pc2 := 65) dL_told_64 rfl rfl rfl ?_
        refine xj_iload (pc2 := 67) dL_told_65 rfl rfl ?_
        refine xj_iload (pc2 := 69) dL_told_67 rfl rfl ?_
        refine xj_cmp_ge (pc2 := 72) (tgt := 88) dL_told_69 rfl rfl (by omega) (by omega) (fun c_69 => ?_) (fun c_69 => ?_)
        · -- 88
          refine xj_iconst (pc2 := 89) dL_told_88 rfl ?_
          refine xj_iadd (pc2 := 90) dL_told_89 rfl ?_
          refine xj_istore3 (pc2 := 91) dL_told_90 rfl rfl (by decide) rfl ?_
          refine xj_iinc8 (pc2 := 94) dL_told_91 rfl (by decide) rfl ?_
          refine xj_goto (tgt := 31) dL_told_94 rfl ?_
          first
          | exact ih2 _ (by rw [Nat.min_eq_left (show n + 1 ≤ k by omega), cntz_t (qz_t c_78)]; rw [Nat.min_eq_left (show n ≤ k by omega)] at ht'; omega)
          | exact ih2 _ (by rw [Nat.min_eq_left (show n + 1 ≤ k by omega), cntz_f (qz_f c_78)]; rw [Nat.min_eq_left (show n ≤ k by omega)] at ht'; omega)
          | exact ih2 _ (by rw [Nat.min_eq_right (show k ≤ n + 1 by omega)]; rw [Nat.min_eq_right (show k ≤ n by omega)] at ht'; omega)
        · -- 72
          refine xj_aload_n (pc2 := 73) dL_told_72 rfl rfl rfl ?_
          refine xj_iload (pc2 := 75) dL_told_73 rfl rfl ?_
          refine xj_iload (pc2 := 77) dL_told_75 rfl rfl ?_
          refine xj_iconst (pc2 := 78) dL_told_77 rfl ?_
          refine xj_S4I (pc2 := 81) (d2 := 2) mok_L_quarrel ml_L_35 sta_yL_quarrel dL_told_78 rfl rfl (by decide) (by decide) (Nat.le_of_ble_eq_true rfl) (fun _ => rfl) ?_
          refine c_L_quarrel rfl hL hW (by omega) (by omega) (by omega) ?_ ?_
          · -- L_quarrel = 1
            intro c_78
            refine xj_if_eq (pc2 := 84) (tgt := 88) dL_told_81 rfl rfl (by omega) (fun c_81 => absurd c_81 (by decide)) (fun c_81 => ?_)
            refine xj_iconst (pc2 := 85) dL_told_84 rfl ?_
            refine xj_goto (tgt := 89) dL_told_85 rfl ?_
            refine xj_iadd (pc2 := 90) dL_told_89 rfl ?_
            refine xj_istore3 (pc2 := 91) dL_told_90 rfl rfl (by decide) rfl ?_
            refine xj_iinc8 (pc2 := 94) dL_told_91 rfl (by decide) rfl ?_
            refine xj_goto (tgt := 31) dL_told_94 rfl ?_
            first
            | exact ih2 _ (by rw [Nat.min_eq_left (show n + 1 ≤ k by omega), cntz_t (qz_t c_78)]; rw [Nat.min_eq_left (show n ≤ k by omega)] at ht'; omega)
            | exact ih2 _ (by rw [Nat.min_eq_left (show n + 1 ≤ k by omega), cntz_f (qz_f c_78)]; rw [Nat.min_eq_left (show n ≤ k by omega)] at ht'; omega)
            | exact ih2 _ (by rw [Nat.min_eq_right (show k ≤ n + 1 by omega)]; rw [Nat.min_eq_right (show k ≤ n by omega)] at ht'; omega)
          · -- L_quarrel = 0
            intro c_78
            refine xj_if_eq (pc2 := 84) (tgt := 88) dL_told_81 rfl rfl (by omega) (fun c_81 => ?_) (fun c_81 => absurd c_81 (by decide))
            refine xj_iconst (pc2 := 89) dL_told_88 rfl ?_
            refine xj_iadd (pc2 := 90) dL_told_89 rfl ?_
            refine xj_istore3 (pc2 := 91) dL_told_90 rfl rfl (by decide) rfl ?_
            refine xj_iinc8 (pc2 := 94) dL_told_91 rfl (by decide) rfl ?_
            refine xj_goto (tgt := 31) dL_told_94 rfl ?_
            first
            | exact ih2 _ (by rw [Nat.min_eq_left (show n + 1 ≤ k by omega), cntz_t (qz_t c_78)]; rw [Nat.min_eq_left (show n ≤ k by omega)] at ht'; omega)
            | exact ih2 _ (by rw [Nat.min_eq_left (show n + 1 ≤ k by omega), cntz_f (qz_f c_78)]; rw [Nat.min_eq_left (show n ≤ k by omega)] at ht'; omega)
            | exact ih2 _ (by rw [Nat.min_eq_right (show k ≤ n + 1 by omega)]; rw [Nat.min_eq_right (show k ≤ n by omega)] at ht'; omega)
      · -- L_quarrel = 0
        intro c_47
        refine xj_if_eq (pc2 := 53) (tgt := 60) dL_told_50 rfl rfl (by omega) (fun c_50 => ?_) (fun c_50 => absurd c_50 (by decide))
        refine xj_iconst (pc2 := 61) dL_told_60 rfl ?_
        refine xj_ior (pc2 := 62) dL_told_61 rfl ?_
        first
        | rw [bs_t (qz_t c_47) (by omega)]
        | rw [bor_0 (by omega), bs_f (qz_f c_47)]
        refine xj_istore7 (pc2 := 64) dL_told_62 rfl (by decide) rfl ?_
        refine xj_iload_n (pc2 := 65) dL_told_64 rfl rfl rfl ?_
        refine xj_iload (pc2 := 67) dL_told_65 rfl rfl ?_
        refine xj_iload (pc2 := 69) dL_told_67 rfl rfl ?_
        refine xj_cmp_ge (pc2 := 72) (tgt := 88) dL_told_69 rfl rfl (by omega) (by omega) (fun c_69 => ?_) (fun c_69 => ?_)
        · -- 88
          refine xj_iconst (pc2 := 89) dL_told_88 rfl ?_
          refine xj_iadd (pc2 := 90) dL_told_89 rfl ?_
          refine xj_istore3 (pc2 := 91) dL_told_90 rfl rfl (by decide) rfl ?_
          refine xj_iinc8 (pc2 := 94) dL_told_91 rfl (by decide) rfl ?_
          refine xj_goto (tgt := 31) dL_told_94 rfl ?_
          first
          | exact ih2 _ (by rw [Nat.min_eq_left (show n + 1 ≤ k by omega), cntz_t (qz_t c_78)]; rw [Nat.min_eq_left (show n ≤ k by omega)] at ht'; omega)
          | exact ih2 _ (by rw [Nat.min_eq_left (show n + 1 ≤ k by omega), cntz_f (qz_f c_78)]; rw [Nat.min_eq_left (show n ≤ k by omega)] at ht'; omega)
          | exact ih2 _ (by rw [Nat.min_eq_right (show k ≤ n + 1 by omega)]; rw [Nat.min_eq_right (show k ≤ n by omega)] at ht'; omega)
        · -- 72
          refine xj_aload_n (pc2 := 73) dL_told_72 rfl rfl rfl ?_
          refine xj_iload (pc2 := 75) dL_told_73 rfl rfl ?_
          refine xj_iload (pc2 := 77) dL_told_75 rfl rfl ?_
          refine xj_iconst (pc2 := 78) dL_told_77 rfl ?_
          refine xj_S4I (pc2 := 81) (d2 := 2) mok_L_quarrel ml_L_35 sta_yL_quarrel dL_told_78 rfl rfl (by decide) (by decide) (Nat.le_of_ble_eq_true rfl) (fun _ => rfl) ?_
          refine c_L_quarrel rfl hL hW (by omega) (by omega) (by omega) ?_ ?_
          · -- L_quarrel = 1
            intro c_78
            refine xj_if_eq (pc2 := 84) (tgt := 88) dL_told_81 rfl rfl (by omega) (fun c_81 => absurd c_81 (by decide)) (fun c_81 => ?_)
            refine xj_iconst (pc2 := 85) dL_told_84 rfl ?_
            refine xj_goto (tgt := 89) dL_told_85 rfl ?_
            refine xj_iadd (pc2 := 90) dL_told_89 rfl ?_
            refine xj_istore3 (pc2 := 91) dL_told_90 rfl rfl (by decide) rfl ?_
            refine xj_iinc8 (pc2 := 94) dL_told_91 rfl (by decide) rfl ?_
            refine xj_goto (tgt := 31) dL_told_94 rfl ?_
            first
            | exact ih2 _ (by rw [Nat.min_eq_left (show n + 1 ≤ k by omega), cntz_t (qz_t c_78)]; rw [Nat.min_eq_left (show n ≤ k by omega)] at ht'; omega)
            | exact ih2 _ (by rw [Nat.min_eq_left (show n + 1 ≤ k by omega), cntz_f (qz_f c_78)]; rw [Nat.min_eq_left (show n ≤ k by omega)] at ht'; omega)
            | exact ih2 _ (by rw [Nat.min_eq_right (show k ≤ n + 1 by omega)]; rw [Nat.min_eq_right (show k ≤ n by omega)] at ht'; omega)
          · -- L_quarrel = 0
            intro c_78
            refine xj_if_eq (pc2 := 84) (tgt := 88) dL_told_81 rfl rfl (by omega) (fun c_81 => ?_) (fun c_81 => absurd c_81 (by decide))
            refine xj_iconst (pc2 := 89) dL_told_88 rfl ?_
            refine xj_iadd (pc2 := 90) dL_told_89 rfl ?_
            refine xj_istore3 (pc2 := 91) dL_told_90 rfl rfl (by decide) rfl ?_
            refine xj_iinc8 (pc2 := 94) dL_told_91 rfl (by decide) rfl ?_
            refine xj_goto (tgt := 31) dL_told_94 rfl ?_
            first
            | exact ih2 _ (by rw [Nat.min_eq_left (show n + 1 ≤ k by omega), cntz_t (qz_t c_78)]; rw [Nat.min_eq_left (show n ≤ k by omega)] at ht'; omega)
            | exact ih2 _ (by rw [Nat.min_eq_left (show n + 1 ≤ k by omega), cntz_f (qz_f c_78)]; rw [Nat.min_eq_left (show n ≤ k by omega)] at ht'; omega)
            | exact ih2 _ (by rw [Nat.min_eq_right (show k ≤ n + 1 by omega)]; rw [Nat.min_eq_right (show k ≤ n by omega)] at ht'; omega)
end TO
