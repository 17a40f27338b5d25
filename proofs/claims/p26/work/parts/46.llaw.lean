/-! the law's body -/
section LA
variable {S I : Sh} {pg : Int → Int} {tr : Int} {h : Hp} {Q : Int → Hp → Prop}
theorem u_wearR {g w s v : Int} (hJ : JJ S I pg tr h) (hg : -2147483648 ≤ g ∧ g ≤ 2147483647) (hw : -2147483648 ≤ w ∧ w ≤ 2147483647) (hs : -2147483648 ≤ s ∧ s ≤ 2147483647) (no : ¬ okW S g w s) (hv : wearR S g w s = v) (hq : ∀ h', JJ S I pg tr h' → Q v h') : CJ 4 kX6_wear [.ref 0, vi g, vi w, vi s] h Q := c_X6_wear hJ.1 hJ.2.1 hg hw hs (fun ok => absurd ok no) (fun _ h' k f => by rw [hv]; exact hq h' (JJ_fr hJ k f))
theorem u_offR {g v : Int} (hJ : JJ S I pg tr h) (hg : -2147483648 ≤ g ∧ g ≤ 2147483647) (no : ¬ okO S g) (hv : offR S g = v) (hq : ∀ h', JJ S I pg tr h' → Q v h') : CJ 2 kX6_off [.ref 0, vi g] h Q := c_X6_off hJ.1 hJ.2.1 hg (fun ok => absurd ok no) (fun _ h' k f => by rw [hv]; exact hq h' (JJ_fr hJ k f))
theorem u_bookR {g x v : Int} (hJ : JJ S I pg tr h) (hg : -2147483648 ≤ g ∧ g ≤ 2147483647) (hx : -2147483648 ≤ x ∧ x ≤ 2147483647) (no : ¬ okB S g x) (hv : bookR S g = v) (hq : ∀ h', JJ S I pg tr h' → Q v h') : CJ 1 kX6_book [.ref 0, vi g, vi x] h Q := c_X6_book hJ.1 hJ.2.1 hg hx (fun ok => absurd ok no) (fun _ h' k f => by rw [hv]; exact hq h' (JJ_fr hJ k f))
theorem u_wishR {w n x v : Int} (hJ : JJ S I pg tr h) (hw : -2147483648 ≤ w ∧ w ≤ 2147483647) (hn : -2147483648 ≤ n ∧ n ≤ 2147483647) (hx : -2147483648 ≤ x ∧ x ≤ 2147483647) (no : ¬ okY S w n x) (hv : wishR S w = v) (hq : ∀ h', JJ S I pg tr h' → Q v h') : CJ 1 kX6_wish [.ref 0, vi w, vi n, vi x] h Q := c_X6_wish hJ.1 hJ.2.1 hw hn hx (fun ok => absurd ok no) (fun _ h' k f => by rw [hv]; exact hq h' (JJ_fr hJ k f))
theorem JJ_far {h' : Hp} (hJ : JJ S I pg tr h) (e : ∀ c k, c ≠ 146 → h' c k = h c k) : JJ S I pg tr h' := ⟨KC_w hJ.1 (fun c k hc => e c k (by omega)), hJ.2.1, RW_eq hJ.2.2.1 (fun k => e 145 k (by decide)), (e 145 2 (by decide)).trans hJ.2.2.2.1, hJ.2.2.2.2⟩
theorem RW_copy {h' : Hp} (hL : RW 145 S h) (hn : S 6 0 ≤ 6 ∧ S 6 1 ≤ 3) (e : ∀ k, 0 ≤ k → k < 39 → h' 146 k = h 145 k) : RW 146 S h' := by
  obtain ⟨⟨a1, a2⟩, hG, hN⟩ := hL
  refine ⟨⟨by rw [e _ (by omega) (by omega), a1], by rw [e _ (by omega) (by omega), a2]⟩, fun g h0 h1 => ?_, fun w h0 h1 => ?_⟩
  · obtain ⟨b1, b2, b3, b4, b5⟩ := hG g h0 h1
    exact ⟨by rw [e _ (by omega) (by omega), b1], by rw [e _ (by omega) (by omega), b2], by rw [e _ (by omega) (by omega), b3], by rw [e _ (by omega) (by omega), b4], by rw [e _ (by omega) (by omega), b5]⟩
  · obtain ⟨b1, b2⟩ := hN w h0 h1
    exact ⟨by rw [e _ (by omega) (by omega), b1], by rw [e _ (by omega) (by omega), b2]⟩
/-- what is refused, at the end of a trip -/
theorem law_refused {L : Nat} {xs : Int → Int} {tp : Int} (hJ : JJ S I pg tr h) (ih : ∀ h', JJ S I pg tr h' → XJ (some (L, xs)) 7 kL_law h' 791 [some (.ref 1000), some (.ref 0), some (.ref 145), some (.ref 146), some (vi tp), some (vi (29 * tp)), none, none, none, none, none, none, none, none, none, none, none, none] [] Q) : XJ (some (L, xs)) 7 kL_law h 490 [some (.ref 1000), some (.ref 0), some (.ref 145), some (.ref 146), some (vi tp), some (vi (29 * tp)), none, none, none, none, none, none, none, none, none, none, none, none] [] Q := by
  have hW := hJ.2.1.1
  have hL := hJ.2.2.1
  have hs0 := hJ.2.2.2.2.2
  have hnn := wf_n hW
  have hs1 : 0 < S 6 1 := by rcases hW.1 with q | q <;> omega
  refine xj_aload_n (pc2 := 491) dL_law_490 rfl rfl rfl ?_
  refine xj_iconst (pc2 := 492) dL_law_491 rfl ?_
  refine xj_iald (pc2 := 493) dL_law_492 rfl rfl (by omega) (by omega) hL.1.1 ?_
  refine xj_istore6 (pc2 := 495) dL_law_493 rfl (by decide) rfl ?_
  refine xj_aload_n (pc2 := 496) dL_law_495 rfl rfl rfl ?_
  refine xj_iconst (pc2 := 497) dL_law_496 rfl ?_
  refine xj_iald (pc2 := 498) dL_law_497 rfl rfl (by omega) (by omega) hL.1.2 ?_
  refine xj_istore7 (pc2 := 500) dL_law_498 rfl (by decide) rfl ?_
  refine xj_aload_n (pc2 := 501) dL_law_500 rfl rfl rfl ?_
  refine xj_iload (pc2 := 503) dL_law_501 rfl rfl ?_
  refine xj_iconst (pc2 := 504) dL_law_503 rfl ?_
  refine xj_V2I (pc2 := 507) (d2 := 4) mok_X6_glove ml_L_103 ima_yX6_glove sel_yX6_glove rfl rfl dL_law_504 rfl rfl (by decide) (by decide) (Nat.le_of_ble_eq_true rfl) (fun _ => rfl) ?_
  refine u_glove (v := -101) hJ (by omega) (by omega) (by unfold gloveZ; (repeat' split) <;> first | (exfalso; omega) | rfl) ?_
  intro h2 hJ
  refine xj_bipush (pc2 := 509) dL_law_507 rfl (by decide) ?_
  refine xj_cmp_ne (pc2 := 512) (tgt := 789) dL_law_509 rfl rfl (by omega) (by omega) (fun c_509 => by exfalso; omega) (fun c_509 => ?_)
  refine xj_aload_n (pc2 := 513) dL_law_512 rfl rfl rfl ?_
  refine xj_iconst (pc2 := 514) dL_law_513 rfl ?_
  refine xj_bipush (pc2 := 516) dL_law_514 rfl (by decide) ?_
  refine xj_V2I (pc2 := 519) (d2 := 4) mok_X6_glove ml_L_103 ima_yX6_glove sel_yX6_glove rfl rfl dL_law_516 rfl rfl (by decide) (by decide) (Nat.le_of_ble_eq_true rfl) (fun _ => rfl) ?_
  refine u_glove (v := -102) hJ (by omega) (by omega) (by unfold gloveZ; (repeat' split) <;> first | (exfalso; omega) | rfl) ?_
  intro h2 hJ
  refine xj_bipush (pc2 := 521) dL_law_519 rfl (by decide) ?_
  refine xj_cmp_ne (pc2 := 524) (tgt := 789) dL_law_521 rfl rfl (by omega) (by omega) (fun c_521 => by exfalso; omega) (fun c_521 => ?_)
  refine xj_aload_n (pc2 := 525) dL_law_524 rfl rfl rfl ?_
  refine xj_iconst (pc2 := 526) dL_law_525 rfl ?_
  refine xj_iconst (pc2 := 527) dL_law_526 rfl ?_
  refine xj_V2I (pc2 := 530) (d2 := 4) mok_X6_glove ml_L_103 ima_yX6_glove sel_yX6_glove rfl rfl dL_law_527 rfl rfl (by decide) (by decide) (Nat.le_of_ble_eq_true rfl) (fun _ => rfl) ?_
  refine u_glove (v := -101) hJ (by omega) (by omega) (by unfold gloveZ; (repeat' split) <;> first | (exfalso; omega) | rfl) ?_
  intro h2 hJ
  refine xj_bipush (pc2 := 532) dL_law_530 rfl (by decide) ?_
  refine xj_cmp_ne (pc2 := 535) (tgt := 789) dL_law_532 rfl rfl (by omega) (by omega) (fun c_532 => by exfalso; omega) (fun c_532 => ?_)
  refine xj_aload_n (pc2 := 536) dL_law_535 rfl rfl rfl ?_
  refine xj_iload (pc2 := 538) dL_law_536 rfl rfl ?_
  refine xj_iconst (pc2 := 539) dL_law_538 rfl ?_
  refine xj_V2I (pc2 := 542) (d2 := 1) mok_X6_as ml_L_106 ima_yX6_as sel_yX6_as rfl rfl dL_law_539 rfl rfl (by decide) (by decide) (Nat.le_of_ble_eq_true rfl) (fun _ => rfl) ?_
  refine u_as (v := -101) hJ (by omega) (by omega) (by unfold asZ; (repeat' split) <;> first | (exfalso; omega) | rfl) ?_
  intro h2 hJ
  refine xj_bipush (pc2 := 544) dL_law_542 rfl (by decide) ?_
  refine xj_cmp_ne (pc2 := 547) (tgt := 789) dL_law_544 rfl rfl (by omega) (by omega) (fun c_544 => by exfalso; omega) (fun c_544 => ?_)
  refine xj_aload_n (pc2 := 548) dL_law_547 rfl rfl rfl ?_
  refine xj_iconst (pc2 := 549) dL_law_548 rfl ?_
  refine xj_iconst (pc2 := 550) dL_law_549 rfl ?_
  refine xj_V2I (pc2 := 553) (d2 := 1) mok_X6_as ml_L_106 ima_yX6_as sel_yX6_as rfl rfl dL_law_550 rfl rfl (by decide) (by decide) (Nat.le_of_ble_eq_true rfl) (fun _ => rfl) ?_
  refine u_as (v := -102) hJ (by omega) (by omega) (by unfold asZ; (repeat' split) <;> first | (exfalso; omega) | rfl) ?_
  intro h2 hJ
  refine xj_bipush (pc2 := 555) dL_law_553 rfl (by decide) ?_
  refine xj_cmp_ne (pc2 := 558) (tgt := 789) dL_law_555 rfl rfl (by omega) (by omega) (fun c_555 => by exfalso; omega) (fun c_555 => ?_)
  refine xj_aload_n (pc2 := 559) dL_law_558 rfl rfl rfl ?_
  refine xj_iload (pc2 := 561) dL_law_559 rfl rfl ?_
  refine xj_iconst (pc2 := 562) dL_law_561 rfl ?_
  refine xj_V2I (pc2 := 565) (d2 := 4) mok_X6_wearer ml_L_109 ima_yX6_wearer sel_yX6_wearer rfl rfl dL_law_562 rfl rfl (by decide) (by decide) (Nat.le_of_ble_eq_true rfl) (fun _ => rfl) ?_
  refine u_wearer (v := -101) hJ (by omega) (by omega) (by unfold wearerZ; (repeat' split) <;> first | (exfalso; omega) | rfl) ?_
  intro h2 hJ
  refine xj_bipush (pc2 := 567) dL_law_565 rfl (by decide) ?_
  refine xj_cmp_ne (pc2 := 570) (tgt := 789) dL_law_567 rfl rfl (by omega) (by omega) (fun c_567 => by exfalso; omega) (fun c_567 => ?_)
  refine xj_aload_n (pc2 := 571) dL_law_570 rfl rfl rfl ?_
  refine xj_iconst (pc2 := 572) dL_law_571 rfl ?_
  refine xj_bipush (pc2 := 574) dL_law_572 rfl (by decide) ?_
  refine xj_V2I (pc2 := 577) (d2 := 4) mok_X6_wearer ml_L_109 ima_yX6_wearer sel_yX6_wearer rfl rfl dL_law_574 rfl rfl (by decide) (by decide) (Nat.le_of_ble_eq_true rfl) (fun _ => rfl) ?_
  refine u_wearer (v := -102) hJ (by omega) (by omega) (by unfold wearerZ; (repeat' split) <;> first | (exfalso; omega) | rfl) ?_
  intro h2 hJ
  refine xj_bipush (pc2 := 579) dL_law_577 rfl (by decide) ?_
  refine xj_cmp_ne (pc2 := 582) (tgt := 789) dL_law_579 rfl rfl (by omega) (by omega) (fun c_579 => by exfalso; omega) (fun c_579 => ?_)
  refine xj_aload_n (pc2 := 583) dL_law_582 rfl rfl rfl ?_
  refine xj_iload (pc2 := 585) dL_law_583 rfl rfl ?_
  refine xj_iconst (pc2 := 586) dL_law_585 rfl ?_
  refine xj_iconst (pc2 := 587) dL_law_586 rfl ?_
  refine xj_V3I (pc2 := 590) (d2 := 4) mok_X6_wear ml_L_55 ima_yX6_wear sel_yX6_wear rfl rfl dL_law_587 rfl rfl (by decide) (by decide) (Nat.le_of_ble_eq_true rfl) (fun _ => rfl) ?_
  refine u_wearR (v := -101) hJ (by omega) (by omega) (by omega) (by unfold okW; omega) (by unfold wearR; (repeat' split) <;> first | (exfalso; omega) | rfl) ?_
  intro h2 hJ
  refine xj_bipush (pc2 := 592) dL_law_590 rfl (by decide) ?_
  refine xj_cmp_ne (pc2 := 595) (tgt := 789) dL_law_592 rfl rfl (by omega) (by omega) (fun c_592 => by exfalso; omega) (fun c_592 => ?_)
  refine xj_aload_n (pc2 := 596) dL_law_595 rfl rfl rfl ?_
  refine xj_iconst (pc2 := 597) dL_law_596 rfl ?_
  refine xj_iload (pc2 := 599) dL_law_597 rfl rfl ?_
  refine xj_iconst (pc2 := 600) dL_law_599 rfl ?_
  refine xj_V3I (pc2 := 603) (d2 := 4) mok_X6_wear ml_L_55 ima_yX6_wear sel_yX6_wear rfl rfl dL_law_600 rfl rfl (by decide) (by decide) (Nat.le_of_ble_eq_true rfl) (fun _ => rfl) ?_
  refine u_wearR (v := -101) hJ (by omega) (by omega) (by omega) (by unfold okW; omega) (by unfold wearR; (repeat' split) <;> first | (exfalso; omega) | rfl) ?_
  intro h2 hJ
  refine xj_bipush (pc2 := 605) dL_law_603 rfl (by decide) ?_
  refine xj_cmp_ne (pc2 := 608) (tgt := 789) dL_law_605 rfl rfl (by omega) (by omega) (fun c_605 => by exfalso; omega) (fun c_605 => ?_)
  refine xj_aload_n (pc2 := 609) dL_law_608 rfl rfl rfl ?_
  refine xj_iconst (pc2 := 610) dL_law_609 rfl ?_
  refine xj_iconst (pc2 := 611) dL_law_610 rfl ?_
  refine xj_iconst (pc2 := 612) dL_law_611 rfl ?_
  refine xj_V3I (pc2 := 615) (d2 := 4) mok_X6_wear ml_L_55 ima_yX6_wear sel_yX6_wear rfl rfl dL_law_612 rfl rfl (by decide) (by decide) (Nat.le_of_ble_eq_true rfl) (fun _ => rfl) ?_
  refine u_wearR (v := -102) hJ (by omega) (by omega) (by omega) (by unfold okW; omega) (by unfold wearR; (repeat' split) <;> first | (exfalso; omega) | rfl) ?_
  intro h2 hJ
  refine xj_bipush (pc2 := 617) dL_law_615 rfl (by decide) ?_
  refine xj_cmp_ne (pc2 := 620) (tgt := 789) dL_law_617 rfl rfl (by omega) (by omega) (fun c_617 => by exfalso; omega) (fun c_617 => ?_)
  refine xj_aload_n (pc2 := 621) dL_law_620 rfl rfl rfl ?_
  refine xj_iconst (pc2 := 622) dL_law_621 rfl ?_
  refine xj_iconst (pc2 := 623) dL_law_622 rfl ?_
  refine xj_iconst (pc2 := 624) dL_law_623 rfl ?_
  refine xj_V3I (pc2 := 627) (d2 := 4) mok_X6_wear ml_L_55 ima_yX6_wear sel_yX6_wear rfl rfl dL_law_624 rfl rfl (by decide) (by decide) (Nat.le_of_ble_eq_true rfl) (fun _ => rfl) ?_
  refine u_wearR (v := -102) hJ (by omega) (by omega) (by omega) (by unfold okW; omega) (by unfold wearR; (repeat' split) <;> first | (exfalso; omega) | rfl) ?_
  intro h2 hJ
  refine xj_bipush (pc2 := 629) dL_law_627 rfl (by decide) ?_
  refine xj_cmp_ne (pc2 := 632) (tgt := 789) dL_law_629 rfl rfl (by omega) (by omega) (fun c_629 => by exfalso; omega) (fun c_629 => ?_)
  refine xj_aload_n (pc2 := 633) dL_law_632 rfl rfl rfl ?_
  refine xj_iload (pc2 := 635) dL_law_633 rfl rfl ?_
  refine xj_V1I (pc2 := 638) (d2 := 2) mok_X6_off ml_L_62 ima_yX6_off sel_yX6_off rfl rfl dL_law_635 rfl rfl (by decide) (by decide) (Nat.le_of_ble_eq_true rfl) (fun _ => rfl) ?_
  refine u_offR (v := -101) hJ (by omega) (by unfold okO; omega) (by unfold offR; (repeat' split) <;> first | (exfalso; omega) | rfl) ?_
  intro h2 hJ
  refine xj_bipush (pc2 := 640) dL_law_638 rfl (by decide) ?_
  refine xj_cmp_ne (pc2 := 643) (tgt := 789) dL_law_640 rfl rfl (by omega) (by omega) (fun c_640 => by exfalso; omega) (fun c_640 => ?_)
  refine xj_aload_n (pc2 := 644) dL_law_643 rfl rfl rfl ?_
  refine xj_iload (pc2 := 646) dL_law_644 rfl rfl ?_
  refine xj_iconst (pc2 := 647) dL_law_646 rfl ?_
  refine xj_V2I (pc2 := 650) (d2 := 1) mok_X6_book ml_L_65 ima_yX6_book sel_yX6_book rfl rfl dL_law_647 rfl rfl (by decide) (by decide) (Nat.le_of_ble_eq_true rfl) (fun _ => rfl) ?_
  refine u_bookR (v := -101) hJ (by omega) (by omega) (by unfold okB; omega) (by unfold bookR; (repeat' split) <;> first | (exfalso; omega) | rfl) ?_
  intro h2 hJ
  refine xj_bipush (pc2 := 652) dL_law_650 rfl (by decide) ?_
  refine xj_cmp_ne (pc2 := 655) (tgt := 789) dL_law_652 rfl rfl (by omega) (by omega) (fun c_652 => by exfalso; omega) (fun c_652 => ?_)
  refine xj_aload_n (pc2 := 656) dL_law_655 rfl rfl rfl ?_
  refine xj_iconst (pc2 := 657) dL_law_656 rfl ?_
  refine xj_bipush (pc2 := 659) dL_law_657 rfl (by decide) ?_
  refine xj_V2I (pc2 := 662) (d2 := 1) mok_X6_book ml_L_65 ima_yX6_book sel_yX6_book rfl rfl dL_law_659 rfl rfl (by decide) (by decide) (Nat.le_of_ble_eq_true rfl) (fun _ => rfl) ?_
  refine u_bookR (v := -102) hJ (by omega) (by omega) (by unfold okB; omega) (by unfold bookR; (repeat' split) <;> first | (exfalso; omega) | rfl) ?_
  intro h2 hJ
  refine xj_bipush (pc2 := 664) dL_law_662 rfl (by decide) ?_
  refine xj_cmp_ne (pc2 := 667) (tgt := 789) dL_law_664 rfl rfl (by omega) (by omega) (fun c_664 => by exfalso; omega) (fun c_664 => ?_)
  refine xj_aload_n (pc2 := 668) dL_law_667 rfl rfl rfl ?_
  refine xj_iload (pc2 := 670) dL_law_668 rfl rfl ?_
  refine xj_iconst (pc2 := 671) dL_law_670 rfl ?_
  refine xj_iconst (pc2 := 672) dL_law_671 rfl ?_
  refine xj_V3I (pc2 := 675) (d2 := 1) mok_X6_wish ml_L_69 ima_yX6_wish sel_yX6_wish rfl rfl dL_law_672 rfl rfl (by decide) (by decide) (Nat.le_of_ble_eq_true rfl) (fun _ => rfl) ?_
  refine u_wishR (v := -101) hJ (by omega) (by omega) (by omega) (by unfold okY; omega) (by unfold wishR; (repeat' split) <;> first | (exfalso; omega) | rfl) ?_
  intro h2 hJ
  refine xj_bipush (pc2 := 677) dL_law_675 rfl (by decide) ?_
  refine xj_cmp_ne (pc2 := 680) (tgt := 789) dL_law_677 rfl rfl (by omega) (by omega) (fun c_677 => by exfalso; omega) (fun c_677 => ?_)
  refine xj_aload_n (pc2 := 681) dL_law_680 rfl rfl rfl ?_
  refine xj_iconst (pc2 := 682) dL_law_681 rfl ?_
  refine xj_bipush (pc2 := 684) dL_law_682 rfl (by decide) ?_
  refine xj_iconst (pc2 := 685) dL_law_684 rfl ?_
  refine xj_V3I (pc2 := 688) (d2 := 1) mok_X6_wish ml_L_69 ima_yX6_wish sel_yX6_wish rfl rfl dL_law_685 rfl rfl (by decide) (by decide) (Nat.le_of_ble_eq_true rfl) (fun _ => rfl) ?_
  refine u_wishR (v := -102) hJ (by omega) (by omega) (by omega) (by unfold okY; omega) (by unfold wishR; (repeat' split) <;> first | (exfalso; omega) | rfl) ?_
  intro h2 hJ
  refine xj_bipush (pc2 := 690) dL_law_688 rfl (by decide) ?_
  refine xj_cmp_ne (pc2 := 693) (tgt := 789) dL_law_690 rfl rfl (by omega) (by omega) (fun c_690 => by exfalso; omega) (fun c_690 => ?_)
  refine xj_aload_n (pc2 := 694) dL_law_693 rfl rfl rfl ?_
  refine xj_iconst (pc2 := 695) dL_law_694 rfl ?_
  refine xj_iconst (pc2 := 696) dL_law_695 rfl ?_
  refine xj_iconst (pc2 := 697) dL_law_696 rfl ?_
  refine xj_V3I (pc2 := 700) (d2 := 1) mok_X6_wish ml_L_69 ima_yX6_wish sel_yX6_wish rfl rfl dL_law_697 rfl rfl (by decide) (by decide) (Nat.le_of_ble_eq_true rfl) (fun _ => rfl) ?_
  refine u_wishR (v := -102) hJ (by omega) (by omega) (by omega) (by unfold okY; omega) (by unfold wishR; (repeat' split) <;> first | (exfalso; omega) | rfl) ?_
  intro h2 hJ
  refine xj_bipush (pc2 := 702) dL_law_700 rfl (by decide) ?_
  refine xj_cmp_ne (pc2 := 705) (tgt := 789) dL_law_702 rfl rfl (by omega) (by omega) (fun c_702 => by exfalso; omega) (fun c_702 => ?_)
  refine xj_aload_n (pc2 := 706) dL_law_705 rfl rfl rfl ?_
  refine xj_iload (pc2 := 708) dL_law_706 rfl rfl ?_
  refine xj_iconst (pc2 := 709) dL_law_708 rfl ?_
  refine xj_V2I (pc2 := 712) (d2 := 4) mok_X6_mood ml_L_112 ima_yX6_mood sel_yX6_mood rfl rfl dL_law_709 rfl rfl (by decide) (by decide) (Nat.le_of_ble_eq_true rfl) (fun _ => rfl) ?_
  refine u_mood (v := -101) hJ (by omega) (by omega) (by unfold moodV; (repeat' split) <;> first | (exfalso; omega) | rfl) ?_
  intro h2 hJ
  refine xj_bipush (pc2 := 714) dL_law_712 rfl (by decide) ?_
  refine xj_cmp_ne (pc2 := 717) (tgt := 789) dL_law_714 rfl rfl (by omega) (by omega) (fun c_714 => by exfalso; omega) (fun c_714 => ?_)
  refine xj_aload_n (pc2 := 718) dL_law_717 rfl rfl rfl ?_
  refine xj_iconst (pc2 := 719) dL_law_718 rfl ?_
  refine xj_bipush (pc2 := 721) dL_law_719 rfl (by decide) ?_
  refine xj_V2I (pc2 := 724) (d2 := 4) mok_X6_mood ml_L_112 ima_yX6_mood sel_yX6_mood rfl rfl dL_law_721 rfl rfl (by decide) (by decide) (Nat.le_of_ble_eq_true rfl) (fun _ => rfl) ?_
  refine u_mood (v := -102) hJ (by omega) (by omega) (by unfold moodV; (repeat' split) <;> first | (exfalso; omega) | rfl) ?_
  intro h2 hJ
  refine xj_bipush (pc2 := 726) dL_law_724 rfl (by decide) ?_
  refine xj_cmp_ne (pc2 := 729) (tgt := 789) dL_law_726 rfl rfl (by omega) (by omega) (fun c_726 => by exfalso; omega) (fun c_726 => ?_)
  refine xj_aload_n (pc2 := 730) dL_law_729 rfl rfl rfl ?_
  refine xj_iconst (pc2 := 731) dL_law_730 rfl ?_
  refine xj_iconst (pc2 := 732) dL_law_731 rfl ?_
  refine xj_V2I (pc2 := 735) (d2 := 4) mok_X6_mood ml_L_112 ima_yX6_mood sel_yX6_mood rfl rfl dL_law_732 rfl rfl (by decide) (by decide) (Nat.le_of_ble_eq_true rfl) (fun _ => rfl) ?_
  refine u_mood (v := -102) hJ (by omega) (by omega) (by unfold moodV; (repeat' split) <;> first | (exfalso; omega) | rfl) ?_
  intro h2 hJ
  refine xj_bipush (pc2 := 737) dL_law_735 rfl (by decide) ?_
  refine xj_cmp_ne (pc2 := 740) (tgt := 789) dL_law_737 rfl rfl (by omega) (by omega) (fun c_737 => by exfalso; omega) (fun c_737 => ?_)
  refine xj_aload_n (pc2 := 741) dL_law_740 rfl rfl rfl ?_
  refine xj_iconst (pc2 := 742) dL_law_741 rfl ?_
  refine xj_iconst (pc2 := 743) dL_law_742 rfl ?_
  refine xj_iconst (pc2 := 744) dL_law_743 rfl ?_
  refine xj_V3I (pc2 := 747) (d2 := 5) mok_X6_teas ml_L_97 ima_yX6_teas sel_yX6_teas rfl rfl dL_law_744 rfl rfl (by decide) (by decide) (Nat.le_of_ble_eq_true rfl) (fun _ => rfl) ?_
  refine u_teas (v := -102) hJ (by omega) (by omega) (by omega) (by unfold teasZ; rw [if_pos (by omega)]) ?_
  intro h2 hJ _
  refine xj_bipush (pc2 := 749) dL_law_747 rfl (by decide) ?_
  refine xj_cmp_ne (pc2 := 752) (tgt := 789) dL_law_749 rfl rfl (by omega) (by omega) (fun c_749 => by exfalso; omega) (fun c_749 => ?_)
  refine xj_aload_n (pc2 := 753) dL_law_752 rfl rfl rfl ?_
  refine xj_bipush (pc2 := 755) dL_law_753 rfl (by decide) ?_
  refine xj_iconst (pc2 := 756) dL_law_755 rfl ?_
  refine xj_iconst (pc2 := 757) dL_law_756 rfl ?_
  refine xj_V3I (pc2 := 760) (d2 := 5) mok_X6_teas ml_L_97 ima_yX6_teas sel_yX6_teas rfl rfl dL_law_757 rfl rfl (by decide) (by decide) (Nat.le_of_ble_eq_true rfl) (fun _ => rfl) ?_
  refine u_teas (v := -102) hJ (by omega) (by omega) (by omega) (by unfold teasZ; rw [if_pos (by omega)]) ?_
  intro h2 hJ _
  refine xj_bipush (pc2 := 762) dL_law_760 rfl (by decide) ?_
  refine xj_cmp_ne (pc2 := 765) (tgt := 789) dL_law_762 rfl rfl (by omega) (by omega) (fun c_762 => by exfalso; omega) (fun c_762 => ?_)
  refine xj_aload_n (pc2 := 766) dL_law_765 rfl rfl rfl ?_
  refine xj_iconst (pc2 := 767) dL_law_766 rfl ?_
  refine xj_iconst (pc2 := 768) dL_law_767 rfl ?_
  refine xj_iconst (pc2 := 769) dL_law_768 rfl ?_
  refine xj_V3I (pc2 := 772) (d2 := 5) mok_X6_teas ml_L_97 ima_yX6_teas sel_yX6_teas rfl rfl dL_law_769 rfl rfl (by decide) (by decide) (Nat.le_of_ble_eq_true rfl) (fun _ => rfl) ?_
  refine u_teas (v := -102) hJ (by omega) (by omega) (by omega) (by unfold teasZ; rw [if_pos (by omega)]) ?_
  intro h2 hJ _
  refine xj_bipush (pc2 := 774) dL_law_772 rfl (by decide) ?_
  refine xj_cmp_ne (pc2 := 777) (tgt := 789) dL_law_774 rfl rfl (by omega) (by omega) (fun c_774 => by exfalso; omega) (fun c_774 => ?_)
  refine xj_aload_n (pc2 := 778) dL_law_777 rfl rfl rfl ?_
  refine xj_iconst (pc2 := 779) dL_law_778 rfl ?_
  refine xj_iconst (pc2 := 780) dL_law_779 rfl ?_
  refine xj_iconst (pc2 := 781) dL_law_780 rfl ?_
  refine xj_V3I (pc2 := 784) (d2 := 5) mok_X6_teas ml_L_97 ima_yX6_teas sel_yX6_teas rfl rfl dL_law_781 rfl rfl (by decide) (by decide) (Nat.le_of_ble_eq_true rfl) (fun _ => rfl) ?_
  refine u_teas (v := -102) hJ (by omega) (by omega) (by omega) (by unfold teasZ; rw [if_pos (by omega)]) ?_
  intro h2 hJ _
  refine xj_bipush (pc2 := 786) dL_law_784 rfl (by decide) ?_
  refine xj_cmp_eq (pc2 := 789) (tgt := 791) dL_law_786 rfl rfl (by omega) (by omega) (fun c_786 => ?_) (fun c_786 => by exfalso; omega)
  exact xj_sub (by repeat (first | exact subL_nil | apply subL_none | apply subL_some rfl)) (ih _ hJ)
/-- the teas behind an act -/
theorem law_teas {L : Nat} {xs : Int → Int} {tp tt x : Int} (hLL : L ≤ 4096) (htp : 0 ≤ tp ∧ tp < 2) (htt : 0 ≤ tt ∧ tt < 22) (hx : 0 ≤ x ∧ x ≤ 2147483647) (hJ : JJ S I pg tr h) (ih : ∀ h', JJ S I pg tr h' → XJ (some (L, xs)) 7 kL_law h' 484 [some (.ref 1000), some (.ref 0), some (.ref 145), some (.ref 146), some (vi tp), some (vi (29 * tp)), some (vi tt), none, none, none, none, none, none, none, none, none, none, none] [] Q) : XJ (some (L, xs)) 7 kL_law h 126 [some (.ref 1000), some (.ref 0), some (.ref 145), some (.ref 146), some (vi tp), some (vi (29 * tp)), some (vi tt), some (vi x), none, none, none, none, none, none, none, none, none, none] [] Q := by
  have hW := hJ.2.1.1
  have hs0 := hJ.2.2.2.2.2
  have hnn := wf_n hW
  have hs1 : 0 < S 6 1 := by rcases hW.1 with q | q <;> omega
  have s191 : ∀ (kn : Nat) (first : Int) (h' : Hp), 1 ≤ kn ∧ kn ≤ 60 → 0 ≤ first ∧ first ≤ 2147483647 → JJ S I pg tr h' → RW 146 S h' → XJ (some (L, xs)) 7 kL_law h' 191 [some (.ref 1000), some (.ref 0), some (.ref 145), some (.ref 146), some (vi tp), some (vi (29 * tp)), some (vi tt), some (vi x), some (vi kn), some (vi first), some (vl first), none, some (vi 0), some (vi 0), none, none, none, none] [] Q := by
    intro kn first h' hkn hf hJ hV
    refine down (P := fun n => ∀ h', JJ S I pg tr h' → RW 146 (teZ S first n).1 h' → XJ (some (L, xs)) 7 kL_law h' 191 [some (.ref 1000), some (.ref 0), some (.ref 145), some (.ref 146), some (vi tp), some (vi (29 * tp)), some (vi tt), some (vi x), some (vi kn), some (vi first), some (vl (teZ S first n).2.1), none, some (vi (teZ S first n).2.2), some (vi n), none, none, none, none] [] Q) (n := kn) ?_ ?_ h' hJ hV
    · intro h' hJ hV
      obtain ⟨o1, o2, o3, o4, o5⟩ := teZ_ok hW hs0 hf kn
      have hL := hJ.2.2.1
      have hW := o1
      have hon := on_ok o1
      have hnn1 := wf_n o1
      have hng := nG_eq o1
      have hbs := bsum_le6 (p := heldP (teZ S first kn).1 (-1)) (n := nG (teZ S first kn).1) (by omega)
      have hpc := pc_rg6 hbs
      have hcr := cntz_rg (q := onP (teZ S first kn).1) (nG (teZ S first kn).1)
      have t0 : teasZ S kn first 0 = (teZ S first kn).2.2 := by unfold teasZ; rw [if_neg (by omega), if_neg (by omega), if_pos rfl, Int.toNat_natCast]
      have t1 : teasZ S kn first 1 = cntz (onP (teZ S first kn).1) (nG (teZ S first kn).1) := by unfold teasZ; rw [if_neg (by omega), if_neg (by omega), if_neg (by omega), if_pos rfl, Int.toNat_natCast]
      have t2 : teasZ S kn first 2 = (teZ S first kn).2.1 := by unfold teasZ; rw [if_neg (by omega), if_neg (by omega), if_neg (by omega), if_neg (by omega), Int.toNat_natCast]
      refine xj_iload (pc2 := 193) dL_law_191 rfl rfl ?_
      refine xj_iload (pc2 := 195) dL_law_193 rfl rfl ?_
      refine xj_cmp_ge (pc2 := 198) (tgt := 428) dL_law_195 rfl rfl (by omega) (by omega) (fun c_195 => ?_) (fun c_195 => by exfalso; omega)
      refine xj_aload_n (pc2 := 429) dL_law_428 rfl rfl rfl ?_
      refine xj_iload (pc2 := 431) dL_law_429 rfl rfl ?_
      refine xj_iload (pc2 := 433) dL_law_431 rfl rfl ?_
      refine xj_iconst (pc2 := 434) dL_law_433 rfl ?_
      refine xj_V3I (pc2 := 437) (d2 := 5) mok_X6_teas ml_L_97 ima_yX6_teas sel_yX6_teas rfl rfl dL_law_434 rfl rfl (by decide) (by decide) (Nat.le_of_ble_eq_true rfl) (fun _ => rfl) ?_
      refine u_teas hJ (by omega) (by omega) (by omega) t0 ?_
      intro h1 hJ f1
      refine xj_iload (pc2 := 439) dL_law_437 rfl rfl ?_
      refine xj_cmp_ne (pc2 := 442) (tgt := 482) dL_law_439 rfl rfl (by omega) (by omega) (fun c_439 => by exfalso; omega) (fun c_439 => ?_)
      refine xj_aload_n (pc2 := 443) dL_law_442 rfl rfl rfl ?_
      refine xj_iload (pc2 := 445) dL_law_443 rfl rfl ?_
      refine xj_iload (pc2 := 447) dL_law_445 rfl rfl ?_
      refine xj_iconst (pc2 := 448) dL_law_447 rfl ?_
      refine xj_V3I (pc2 := 451) (d2 := 5) mok_X6_teas ml_L_97 ima_yX6_teas sel_yX6_teas rfl rfl dL_law_448 rfl rfl (by decide) (by decide) (Nat.le_of_ble_eq_true rfl) (fun _ => rfl) ?_
      refine u_teas hJ (by omega) (by omega) (by omega) t1 ?_
      intro h2 hJ f2
      have hV2 := RW_eq hV (fun k => (f2 146 k (by omega)).trans (f1 146 k (by omega)))
      refine xj_aload_n (pc2 := 452) dL_law_451 rfl rfl rfl ?_
      refine xj_iconst (pc2 := 453) dL_law_452 rfl ?_
      refine xj_iald (pc2 := 454) dL_law_453 rfl rfl (by omega) (by omega) ((f2 145 0 (by omega)).trans ((f1 145 0 (by omega)).trans (hL.1.1.trans o2.symm))) ?_
      refine xj_aload_n (pc2 := 455) dL_law_454 rfl rfl rfl ?_
      refine xj_iconst (pc2 := 456) dL_law_455 rfl ?_
      refine xj_S2I (pc2 := 459) (d2 := 0) mok_L_worn ml_L_58 sta_yL_worn dL_law_456 rfl rfl (by decide) (by decide) (Nat.le_of_ble_eq_true rfl) (fun _ => rfl) ?_
      refine c_L_worn rfl hV2 o1 (by omega) ?_
      refine xj_S1I (pc2 := 462) (d2 := 0) mok_L_ones ml_L_100 sta_yL_ones dL_law_459 rfl rfl (by decide) (by decide) (Nat.le_of_ble_eq_true rfl) (fun _ => rfl) ?_
      refine c_L_ones (by omega) ?_
      refine xj_isub (pc2 := 463) dL_law_462 rfl ?_
      refine xj_cmp_ne (pc2 := 466) (tgt := 482) dL_law_463 rfl rfl (by omega) (by omega) (fun c_463 => by exfalso; omega) (fun c_463 => ?_)
      refine xj_aload_n (pc2 := 467) dL_law_466 rfl rfl rfl ?_
      refine xj_iload (pc2 := 469) dL_law_467 rfl rfl ?_
      refine xj_iload (pc2 := 471) dL_law_469 rfl rfl ?_
      refine xj_iconst (pc2 := 472) dL_law_471 rfl ?_
      refine xj_V3I (pc2 := 475) (d2 := 5) mok_X6_teas ml_L_97 ima_yX6_teas sel_yX6_teas rfl rfl dL_law_472 rfl rfl (by decide) (by decide) (Nat.le_of_ble_eq_true rfl) (fun _ => rfl) ?_
      refine u_teas hJ (by omega) (by omega) (by omega) t2 ?_
      intro h3 hJ f3
      refine xj_i2l (pc2 := 476) dL_law_475 rfl (by omega) ?_
      refine xj_lload (pc2 := 478) dL_law_476 rfl rfl ?_
      refine xj_lcmp_eq (pc2 := 479) dL_law_478 rfl rfl ?_
      refine xj_if_eq (pc2 := 482) (tgt := 484) dL_law_479 rfl rfl (by omega) (fun c_479 => ?_) (fun c_479 => absurd c_479 (by decide))
      exact xj_sub (by repeat (first | exact subL_nil | apply subL_none | apply subL_some rfl)) (ih _ hJ)
    · intro n hn ih2 h' hJ hV
      obtain ⟨o1, o2, o3, o4, o5⟩ := teZ_ok hW hs0 hf n
      have ih2 : ∀ h', JJ S I pg tr h' → RW 146 (passS (cbd (teZ S first n).1 (teZ S first n).2.1).1) h' → XJ (some (L, xs)) 7 kL_law h' 191 [some (.ref 1000), some (.ref 0), some (.ref 145), some (.ref 146), some (vi tp), some (vi (29 * tp)), some (vi tt), some (vi x), some (vi kn), some (vi first), some (vl (cbd (teZ S first n).1 (teZ S first n).2.1).2), none, some (vi ((teZ S first n).2.2 + cntz (doP (passS (cbd (teZ S first n).1 (teZ S first n).2.1).1) 1) (nW (passS (cbd (teZ S first n).1 (teZ S first n).2.1).1)))), some (vi ((n : Int) + 1)), none, none, none, none] [] Q := ih2
      generalize (teZ S first n).1 = V at *
      generalize (teZ S first n).2.1 = s at *
      generalize (teZ S first n).2.2 = sm at *
      have hv0 : 0 < V 6 0 := by omega
      have hv1 : 0 < V 6 1 := by omega
      have hnv := wf_n o1
      have hwc := cbd_wf o1 hv0 s
      have hwp := WF_pass hwc
      have e61 : passS (cbd V s).1 6 1 = S 6 1 := by rw [passS_t (by decide) (by decide), cbd_n, o3]
      have hsc := cbd_s V s
      -- how many butt
      have s374 : ∀ h', JJ S I pg tr h' → RW 146 (passS (cbd V s).1) h' → XJ (some (L, xs)) 7 kL_law h' 374 [some (.ref 1000), some (.ref 0), some (.ref 145), some (.ref 146), some (vi tp), some (vi (29 * tp)), some (vi tt), some (vi x), some (vi kn), some (vi first), some (vl (cbd V s).2), none, some (vi sm), some (vi n), none, none, none, some (vi 0)] [] Q := by
        intro h' hJ hV
        have hL := hJ.2.2.1
        generalize passS (cbd V s).1 = V2 at *
        have hnn2 := wf_n hwp
        have hnw := nW_eq hwp
        refine down (P := fun m => ∀ b, b = sm + cntz (doP V2 1) m → XJ (some (L, xs)) 7 kL_law h' 374 [some (.ref 1000), some (.ref 0), some (.ref 145), some (.ref 146), some (vi tp), some (vi (29 * tp)), some (vi tt), some (vi x), some (vi kn), some (vi first), some (vl (cbd V s).2), none, some (vi b), some (vi n), none, none, none, some (vi m)] [] Q) (n := nW V2) ?_ ?_ sm (by simp [cntz])
        · intro b hb
          subst hb
          refine xj_iload (pc2 := 376) dL_law_374 rfl rfl ?_
          refine xj_aload_n (pc2 := 377) dL_law_376 rfl rfl rfl ?_
          refine xj_iconst (pc2 := 378) dL_law_377 rfl ?_
          refine xj_iald (pc2 := 379) dL_law_378 rfl rfl (by omega) (by omega) hL.1.2 ?_
          refine xj_cmp_ge (pc2 := 382) (tgt := 422) dL_law_379 rfl rfl (by omega) (by omega) (fun c_379 => ?_) (fun c_379 => by exfalso; omega)
          refine xj_iinc13 (pc2 := 425) dL_law_422 rfl (by decide) rfl ?_
          refine xj_goto (tgt := 191) dL_law_425 rfl ?_
          exact xj_sub (by repeat (first | exact subL_nil | apply subL_none | apply subL_some rfl)) (ih2 _ hJ hV)
        · intro m hm ih3 b hb
          have hg : 0 ≤ (m : Int) ∧ (m : Int) < V2 6 1 := by omega
          have hmr := moodZ_rg hwp (b := bsum (heldP V2 m) (nG V2)) (m := 0) hg (by decide)
          have hdz := doz_rg (m := moodZ V2 m (bsum (heldP V2 m) (nG V2)) 0)
          refine xj_iload (pc2 := 376) dL_law_374 rfl rfl ?_
          refine xj_aload_n (pc2 := 377) dL_law_376 rfl rfl rfl ?_
          refine xj_iconst (pc2 := 378) dL_law_377 rfl ?_
          refine xj_iald (pc2 := 379) dL_law_378 rfl rfl (by omega) (by omega) hL.1.2 ?_
          refine xj_cmp_ge (pc2 := 382) (tgt := 422) dL_law_379 rfl rfl (by omega) (by omega) (fun c_379 => by exfalso; omega) (fun c_379 => ?_)
          refine xj_iload (pc2 := 384) dL_law_382 rfl rfl ?_
          refine xj_aload_n (pc2 := 385) dL_law_384 rfl rfl rfl ?_
          refine xj_aload_n (pc2 := 386) dL_law_385 rfl rfl rfl ?_
          refine xj_iconst (pc2 := 387) dL_law_386 rfl ?_
          refine xj_iload (pc2 := 389) dL_law_387 rfl rfl ?_
          refine xj_iadd (pc2 := 390) dL_law_389 rfl ?_
          refine xj_iald (pc2 := 391) dL_law_390 rfl rfl (by omega) (by omega) (rn0 hV hg (by omega)) ?_
          refine xj_aload_n (pc2 := 392) dL_law_391 rfl rfl rfl ?_
          refine xj_iload (pc2 := 394) dL_law_392 rfl rfl ?_
          refine xj_S2I (pc2 := 397) (d2 := 0) mok_L_worn ml_L_58 sta_yL_worn dL_law_394 rfl rfl (by decide) (by decide) (Nat.le_of_ble_eq_true rfl) (fun _ => rfl) ?_
          refine c_L_worn rfl hV hwp (by omega) ?_
          refine xj_iconst (pc2 := 398) dL_law_397 rfl ?_
          refine xj_S4I (pc2 := 401) (d2 := 3) mok_L_mood ml_L_39 sta_yL_mood dL_law_398 rfl rfl (by decide) (by decide) (Nat.le_of_ble_eq_true rfl) (fun _ => rfl) ?_
          refine c_L_mood rfl hV hwp hg (by decide) ?_
          refine xj_S1I (pc2 := 404) (d2 := 0) mok_L_doing ml_L_43 sta_yL_doing dL_law_401 rfl rfl (by decide) (by decide) (Nat.le_of_ble_eq_true rfl) (fun _ => rfl) ?_
          refine c_L_doing (by omega) ?_
          refine xj_iconst (pc2 := 405) dL_law_404 rfl ?_
          refine xj_cmp_ne (pc2 := 408) (tgt := 412) dL_law_405 rfl rfl (by omega) (by omega) (fun c_405 => ?_) (fun c_405 => ?_)
          · -- 412
            refine xj_iconst (pc2 := 413) dL_law_412 rfl ?_
            refine xj_iadd (pc2 := 414) dL_law_413 rfl ?_
            refine xj_istore12 (pc2 := 416) dL_law_414 rfl (by decide) rfl ?_
            refine xj_iinc17 (pc2 := 419) dL_law_416 rfl (by decide) rfl ?_
            refine xj_goto (tgt := 374) dL_law_419 rfl ?_
            first
            | exact ih3 _ (by rw [hb, cntz_t (q := doP V2 1) (decide_eq_true c_405)]; omega)
            | exact ih3 _ (by rw [hb, cntz_f (q := doP V2 1) (decide_eq_false c_405)]; omega)
          · -- 408
            refine xj_iconst (pc2 := 409) dL_law_408 rfl ?_
            refine xj_goto (tgt := 413) dL_law_409 rfl ?_
            refine xj_iadd (pc2 := 414) dL_law_413 rfl ?_
            refine xj_istore12 (pc2 := 416) dL_law_414 rfl (by decide) rfl ?_
            refine xj_iinc17 (pc2 := 419) dL_law_416 rfl (by decide) rfl ?_
            refine xj_goto (tgt := 374) dL_law_419 rfl ?_
            first
            | exact ih3 _ (by rw [hb, cntz_t (q := doP V2 1) (decide_eq_true c_405)]; omega)
            | exact ih3 _ (by rw [hb, cntz_f (q := doP V2 1) (decide_eq_false c_405)]; omega)
      -- the change is made, an hour goes by
      have hd := drw_rg s hv0
      have s351 : ∀ who hand : Int, RW 146 (cbd V s).1 (hset (hset h' 146 (9 + 5 * drw s (V 6 0) + 3) who) 146 (9 + 5 * drw s (V 6 0) + 4) hand) → XJ (some (L, xs)) 7 kL_law h' 351 [some (.ref 1000), some (.ref 0), some (.ref 145), some (.ref 146), some (vi tp), some (vi (29 * tp)), some (vi tt), some (vi x), some (vi kn), some (vi first), some (vl (cbd V s).2), none, some (vi sm), some (vi n), some (vi (9 + 5 * drw s (V 6 0))), some (vi who), some (vi hand), none] [] Q := by
        intro who hand hR
        refine xj_aload_n (pc2 := 352) dL_law_351 rfl rfl rfl ?_
        refine xj_iload (pc2 := 354) dL_law_352 rfl rfl ?_
        refine xj_iconst (pc2 := 355) dL_law_354 rfl ?_
        refine xj_iadd (pc2 := 356) dL_law_355 rfl ?_
        refine xj_iload (pc2 := 358) dL_law_356 rfl rfl ?_
        refine xj_iast (pc2 := 359) dL_law_358 rfl rfl (by omega) (by omega) ?_
        refine xj_aload_n (pc2 := 360) dL_law_359 rfl rfl rfl ?_
        refine xj_iload (pc2 := 362) dL_law_360 rfl rfl ?_
        refine xj_iconst (pc2 := 363) dL_law_362 rfl ?_
        refine xj_iadd (pc2 := 364) dL_law_363 rfl ?_
        refine xj_iload (pc2 := 366) dL_law_364 rfl rfl ?_
        refine xj_iast (pc2 := 367) dL_law_366 rfl rfl (by omega) (by omega) ?_
        refine xj_aload_n (pc2 := 368) dL_law_367 rfl rfl rfl ?_
        refine xj_S1V (pc2 := 371) (d2 := 0) mok_L_hour ml_L_46 sta_yL_hour dL_law_368 rfl rfl (by decide) (by decide) (Nat.le_of_ble_eq_true rfl) (fun _ => rfl) ?_
        refine c_L_hour rfl hR hwc ?_
        intro h2 hL2 g1 g2
        have hJ2 := JJ_far hJ (fun c k hc => (g2 c k hc).trans ((hset_nc hc).trans (hset_nc hc)))
        refine xj_iconst (pc2 := 372) dL_law_371 rfl ?_
        refine xj_istore17 (pc2 := 374) dL_law_372 rfl (by decide) rfl ?_
        exact xj_sub (by repeat (first | exact subL_nil | apply subL_none | apply subL_some rfl)) (s374 _ hJ2 hL2)
      have hz1 := sdz_rg s
      have hz2 := sdz_rg (sdz s)
      have hz3 := sdz_rg (sdz (sdz s))
      have hd2 := drw_rg (sdz s) hv1
      have hd3 := drw_rg (sdz (sdz s)) (d := 2) (by decide)
      have hob := hold_b o1 hd
      have hvg := wf_g o1 hd
      have hm := hold_m hvg.2.2.2.1
      have hL := hJ.2.2.1
      have s307 : V 3 (drw s (V 6 0)) = -1 → XJ (some (L, xs)) 7 kL_law h' 307 [some (.ref 1000), some (.ref 0), some (.ref 145), some (.ref 146), some (vi tp), some (vi (29 * tp)), some (vi tt), some (vi x), some (vi kn), some (vi first), some (vl (sdz (sdz (sdz s)))), none, some (vi sm), some (vi n), some (vi (9 + 5 * drw s (V 6 0))), some (vi (drw (sdz s) (V 6 1))), some (vi (drw (sdz (sdz s)) 2)), none] [] Q := by
        intro e
        have hgo := goZ_rg o1 (2 * drw (sdz s) (V 6 1) + drw (sdz (sdz s)) 2)
        have h2 := hold_2 hd2.1 (show 0 ≤ drw (sdz (sdz s)) 2 ∧ drw (sdz (sdz s)) 2 ≤ 1 by omega)
        by_cases e2 : goZ V (2 * drw (sdz s) (V 6 1) + drw (sdz (sdz s)) 2) = -1
        · have ec : cbd V s = (hset V 3 (drw s (V 6 0)) (2 * drw (sdz s) (V 6 1) + drw (sdz (sdz s)) 2), sdz (sdz (sdz s))) := by unfold cbd; rw [if_pos e, if_pos e2]
          have hR := RW_on (g := drw s (V 6 0)) hV (by omega) hd.1 h2.1 h2.2
          rw [ec] at s351
          have s351 := s351 _ _ hR
          refine xj_aload_n (pc2 := 308) dL_law_307 rfl rfl rfl ?_
          refine xj_iload (pc2 := 310) dL_law_308 rfl rfl ?_
          refine xj_iload (pc2 := 312) dL_law_310 rfl rfl ?_
          refine xj_S3I (pc2 := 315) (d2 := 0) mok_L_onHand ml_L_52 sta_yL_onHand dL_law_312 rfl rfl (by decide) (by decide) (Nat.le_of_ble_eq_true rfl) (fun _ => rfl) ?_
          refine c_L_onHand rfl hV o1 (by omega) (by omega) ?_
          refine xj_if_ge (pc2 := 318) (tgt := 322) dL_law_315 rfl rfl (by omega) (fun c_315 => by exfalso; omega) (fun c_315 => ?_)
          refine xj_iconst (pc2 := 319) dL_law_318 rfl ?_
          refine xj_goto (tgt := 323) dL_law_319 rfl ?_
          refine xj_istore17 (pc2 := 325) dL_law_323 rfl (by decide) rfl ?_
          refine xj_iload (pc2 := 327) dL_law_325 rfl rfl ?_
          refine xj_if_eq (pc2 := 330) (tgt := 335) dL_law_327 rfl rfl (by omega) (fun c_327 => absurd c_327 (by decide)) (fun c_327 => ?_)
          refine xj_iload (pc2 := 332) dL_law_330 rfl rfl ?_
          refine xj_goto (tgt := 336) dL_law_332 rfl ?_
          refine xj_istore15 (pc2 := 338) dL_law_336 rfl (by decide) rfl ?_
          refine xj_iload (pc2 := 340) dL_law_338 rfl rfl ?_
          refine xj_if_eq (pc2 := 343) (tgt := 348) dL_law_340 rfl rfl (by omega) (fun c_340 => absurd c_340 (by decide)) (fun c_340 => ?_)
          refine xj_iload (pc2 := 345) dL_law_343 rfl rfl ?_
          refine xj_goto (tgt := 349) dL_law_345 rfl ?_
          refine xj_istore16 (pc2 := 351) dL_law_349 rfl (by decide) rfl ?_
          exact xj_sub (by repeat (first | exact subL_nil | apply subL_none | apply subL_some rfl)) s351
        · have ec : cbd V s = (V, sdz (sdz (sdz s))) := by unfold cbd; rw [if_pos e, if_neg e2]
          have hR := RW_on (g := drw s (V 6 0)) (v := -1) (w := -1) (s := -1) hV (by omega) hd.1 rfl rfl
          rw [hset_same e] at hR
          rw [ec] at s351
          have s351 := s351 _ _ hR
          refine xj_aload_n (pc2 := 308) dL_law_307 rfl rfl rfl ?_
          refine xj_iload (pc2 := 310) dL_law_308 rfl rfl ?_
          refine xj_iload (pc2 := 312) dL_law_310 rfl rfl ?_
          refine xj_S3I (pc2 := 315) (d2 := 0) mok_L_onHand ml_L_52 sta_yL_onHand dL_law_312 rfl rfl (by decide) (by decide) (Nat.le_of_ble_eq_true rfl) (fun _ => rfl) ?_
          refine c_L_onHand rfl hV o1 (by omega) (by omega) ?_
          refine xj_if_ge (pc2 := 318) (tgt := 322) dL_law_315 rfl rfl (by omega) (fun c_315 => ?_) (fun c_315 => by exfalso; omega)
          refine xj_iconst (pc2 := 323) dL_law_322 rfl ?_
          refine xj_istore17 (pc2 := 325) dL_law_323 rfl (by decide) rfl ?_
          refine xj_iload (pc2 := 327) dL_law_325 rfl rfl ?_
          refine xj_if_eq (pc2 := 330) (tgt := 335) dL_law_327 rfl rfl (by omega) (fun c_327 => ?_) (fun c_327 => absurd c_327 (by decide))
          refine xj_iconst (pc2 := 336) dL_law_335 rfl ?_
          refine xj_istore15 (pc2 := 338) dL_law_336 rfl (by decide) rfl ?_
          refine xj_iload (pc2 := 340) dL_law_338 rfl rfl ?_
          refine xj_if_eq (pc2 := 343) (tgt := 348) dL_law_340 rfl rfl (by omega) (fun c_340 => ?_) (fun c_340 => absurd c_340 (by decide))
          refine xj_iconst (pc2 := 349) dL_law_348 rfl ?_
          refine xj_istore16 (pc2 := 351) dL_law_349 rfl (by decide) rfl ?_
          exact xj_sub (by repeat (first | exact subL_nil | apply subL_none | apply subL_some rfl)) s351
      have s278 : V 3 (drw s (V 6 0)) = -1 → XJ (some (L, xs)) 7 kL_law h' 278 [some (.ref 1000), some (.ref 0), some (.ref 145), some (.ref 146), some (vi tp), some (vi (29 * tp)), some (vi tt), some (vi x), some (vi kn), some (vi first), some (vl (sdz (sdz s))), none, some (vi sm), some (vi n), some (vi (9 + 5 * drw s (V 6 0))), some (vi (drw (sdz s) (V 6 1))), some (vi (-1)), none] [] Q := by
        intro e
        have s307 := s307 e
        refine xj_ldc2 (pc2 := 281) (n := 1103515245) dL_law_278 rfl k_L_87 rfl ?_
        refine xj_lload (pc2 := 283) dL_law_281 rfl rfl ?_
        refine xj_lmul (pc2 := 284) dL_law_283 rfl ?_
        refine xj_ldc2 (pc2 := 287) (n := 12345) dL_law_284 rfl k_L_89 rfl ?_
        refine xj_ladd (pc2 := 288) dL_law_287 rfl ?_
        refine xj_ldc2 (pc2 := 291) (n := 2147483648) dL_law_288 rfl k_L_91 rfl ?_
        refine xj_lrem (pc2 := 292) dL_law_291 rfl (by omega) (by omega) ?_
        refine xj_lstore10 (pc2 := 294) dL_law_292 rfl (by decide) rfl ?_
        refine xj_lload (pc2 := 296) dL_law_294 rfl rfl ?_
        refine xj_ldc2 (pc2 := 299) (n := 65536) dL_law_296 rfl k_L_93 rfl ?_
        refine xj_ldiv (pc2 := 300) dL_law_299 rfl (by omega) (by omega) ?_
        refine xj_ldc2 (pc2 := 303) (n := 2) dL_law_300 rfl k_L_95 rfl ?_
        refine xj_lrem (pc2 := 304) dL_law_303 rfl (by omega) (by omega) ?_
        refine xj_l2i (pc2 := 305) dL_law_304 rfl ?_
        refine xj_istore16 (pc2 := 307) dL_law_305 rfl (by decide) rfl ?_
        exact s307
      have s233 : XJ (some (L, xs)) 7 kL_law h' 233 [some (.ref 1000), some (.ref 0), some (.ref 145), some (.ref 146), some (vi tp), some (vi (29 * tp)), some (vi tt), some (vi x), some (vi kn), some (vi first), some (vl (sdz s)), none, some (vi sm), some (vi n), some (vi (9 + 5 * drw s (V 6 0))), none, none, none] [] Q := by
        by_cases e : V 3 (drw s (V 6 0)) = -1
        · have e1 := hm.mpr e
          have s278 := s278 e
          refine xj_iconst (pc2 := 234) dL_law_233 rfl ?_
          refine xj_istore15 (pc2 := 236) dL_law_234 rfl (by decide) rfl ?_
          refine xj_iconst (pc2 := 237) dL_law_236 rfl ?_
          refine xj_istore16 (pc2 := 239) dL_law_237 rfl (by decide) rfl ?_
          refine xj_aload_n (pc2 := 240) dL_law_239 rfl rfl rfl ?_
          refine xj_iload (pc2 := 242) dL_law_240 rfl rfl ?_
          refine xj_iconst (pc2 := 243) dL_law_242 rfl ?_
          refine xj_iadd (pc2 := 244) dL_law_243 rfl ?_
          refine xj_iald (pc2 := 245) dL_law_244 rfl rfl (by omega) (by omega) (rk3 hV hd (by omega)) ?_
          refine xj_if_ge (pc2 := 248) (tgt := 351) dL_law_245 rfl rfl (by omega) (fun c_245 => by exfalso; omega) (fun c_245 => ?_)
          refine xj_ldc2 (pc2 := 251) (n := 1103515245) dL_law_248 rfl k_L_87 rfl ?_
          refine xj_lload (pc2 := 253) dL_law_251 rfl rfl ?_
          refine xj_lmul (pc2 := 254) dL_law_253 rfl ?_
          refine xj_ldc2 (pc2 := 257) (n := 12345) dL_law_254 rfl k_L_89 rfl ?_
          refine xj_ladd (pc2 := 258) dL_law_257 rfl ?_
          refine xj_ldc2 (pc2 := 261) (n := 2147483648) dL_law_258 rfl k_L_91 rfl ?_
          refine xj_lrem (pc2 := 262) dL_law_261 rfl (by omega) (by omega) ?_
          refine xj_lstore10 (pc2 := 264) dL_law_262 rfl (by decide) rfl ?_
          refine xj_lload (pc2 := 266) dL_law_264 rfl rfl ?_
          refine xj_ldc2 (pc2 := 269) (n := 65536) dL_law_266 rfl k_L_93 rfl ?_
          refine xj_ldiv (pc2 := 270) dL_law_269 rfl (by omega) (by omega) ?_
          refine xj_aload_n (pc2 := 271) dL_law_270 rfl rfl rfl ?_
          refine xj_iconst (pc2 := 272) dL_law_271 rfl ?_
          refine xj_iald (pc2 := 273) dL_law_272 rfl rfl (by omega) (by omega) (hL.1.2.trans o3.symm) ?_
          refine xj_i2l (pc2 := 274) dL_law_273 rfl (by omega) ?_
          refine xj_lrem (pc2 := 275) dL_law_274 rfl (by omega) (by omega) ?_
          refine xj_l2i (pc2 := 276) dL_law_275 rfl ?_
          refine xj_istore15 (pc2 := 278) dL_law_276 rfl (by decide) rfl ?_
          exact s278
        · have e1 : ¬ hold (V 3 (drw s (V 6 0))) = -1 := fun q => e (hm.mp q)
          have ec : cbd V s = (hset V 3 (drw s (V 6 0)) (-1), sdz s) := by unfold cbd; rw [if_neg e]
          have hR := RW_on (g := drw s (V 6 0)) (v := -1) (w := -1) (s := -1) hV (by omega) hd.1 rfl rfl
          rw [ec] at s351
          have s351 := s351 _ _ hR
          refine xj_iconst (pc2 := 234) dL_law_233 rfl ?_
          refine xj_istore15 (pc2 := 236) dL_law_234 rfl (by decide) rfl ?_
          refine xj_iconst (pc2 := 237) dL_law_236 rfl ?_
          refine xj_istore16 (pc2 := 239) dL_law_237 rfl (by decide) rfl ?_
          refine xj_aload_n (pc2 := 240) dL_law_239 rfl rfl rfl ?_
          refine xj_iload (pc2 := 242) dL_law_240 rfl rfl ?_
          refine xj_iconst (pc2 := 243) dL_law_242 rfl ?_
          refine xj_iadd (pc2 := 244) dL_law_243 rfl ?_
          refine xj_iald (pc2 := 245) dL_law_244 rfl rfl (by omega) (by omega) (rk3 hV hd (by omega)) ?_
          refine xj_if_ge (pc2 := 248) (tgt := 351) dL_law_245 rfl rfl (by omega) (fun c_245 => ?_) (fun c_245 => by exfalso; omega)
          exact xj_sub (by repeat (first | exact subL_nil | apply subL_none | apply subL_some rfl)) s351
      refine xj_iload (pc2 := 193) dL_law_191 rfl rfl ?_
      refine xj_iload (pc2 := 195) dL_law_193 rfl rfl ?_
      refine xj_cmp_ge (pc2 := 198) (tgt := 428) dL_law_195 rfl rfl (by omega) (by omega) (fun c_195 => by exfalso; omega) (fun c_195 => ?_)
      refine xj_ldc2 (pc2 := 201) (n := 1103515245) dL_law_198 rfl k_L_87 rfl ?_
      refine xj_lload (pc2 := 203) dL_law_201 rfl rfl ?_
      refine xj_lmul (pc2 := 204) dL_law_203 rfl ?_
      refine xj_ldc2 (pc2 := 207) (n := 12345) dL_law_204 rfl k_L_89 rfl ?_
      refine xj_ladd (pc2 := 208) dL_law_207 rfl ?_
      refine xj_ldc2 (pc2 := 211) (n := 2147483648) dL_law_208 rfl k_L_91 rfl ?_
      refine xj_lrem (pc2 := 212) dL_law_211 rfl (by omega) (by omega) ?_
      refine xj_lstore10 (pc2 := 214) dL_law_212 rfl (by decide) rfl ?_
      refine xj_bipush (pc2 := 216) dL_law_214 rfl (by decide) ?_
      refine xj_iconst (pc2 := 217) dL_law_216 rfl ?_
      refine xj_lload (pc2 := 219) dL_law_217 rfl rfl ?_
      refine xj_ldc2 (pc2 := 222) (n := 65536) dL_law_219 rfl k_L_93 rfl ?_
      refine xj_ldiv (pc2 := 223) dL_law_222 rfl (by omega) (by omega) ?_
      refine xj_aload_n (pc2 := 224) dL_law_223 rfl rfl rfl ?_
      refine xj_iconst (pc2 := 225) dL_law_224 rfl ?_
      refine xj_iald (pc2 := 226) dL_law_225 rfl rfl (by omega) (by omega) (hL.1.1.trans o2.symm) ?_
      refine xj_i2l (pc2 := 227) dL_law_226 rfl (by omega) ?_
      refine xj_lrem (pc2 := 228) dL_law_227 rfl (by omega) (by omega) ?_
      refine xj_l2i (pc2 := 229) dL_law_228 rfl ?_
      refine xj_imul (pc2 := 230) dL_law_229 rfl ?_
      refine xj_iadd (pc2 := 231) dL_law_230 rfl ?_
      refine xj_istore14 (pc2 := 233) dL_law_231 rfl (by decide) rfl ?_
      exact s233
  have s161 : ∀ (kn : Nat) (first : Int), 1 ≤ kn ∧ kn ≤ 60 → 0 ≤ first ∧ first ≤ 2147483647 → XJ (some (L, xs)) 7 kL_law h 161 [some (.ref 1000), some (.ref 0), some (.ref 145), some (.ref 146), some (vi tp), some (vi (29 * tp)), some (vi tt), some (vi x), some (vi kn), some (vi first), some (vl first), none, none, none, none, none, none, none] [] Q := by
    intro kn first hkn hf
    refine xj_iconst (pc2 := 162) dL_law_161 rfl ?_
    refine xj_istore12 (pc2 := 164) dL_law_162 rfl (by decide) rfl ?_
    refine down (P := fun k => ∀ h', JJ S I pg tr h' → (∀ i, 0 ≤ i → i < (k : Int) → h' 146 i = h' 145 i) → XJ (some (L, xs)) 7 kL_law h' 164 [some (.ref 1000), some (.ref 0), some (.ref 145), some (.ref 146), some (vi tp), some (vi (29 * tp)), some (vi tt), some (vi x), some (vi kn), some (vi first), some (vl first), none, some (vi k), none, none, none, none, none] [] Q) (n := 39) ?_ ?_ h hJ (fun i h0 h1 => by omega)
    · intro h' hJ he
      have hV := RW_copy hJ.2.2.1 (by omega) (fun k h0 h1 => he k h0 (by omega))
      refine xj_iload (pc2 := 166) dL_law_164 rfl rfl ?_
      refine xj_bipush (pc2 := 168) dL_law_166 rfl (by decide) ?_
      refine xj_cmp_ge (pc2 := 171) (tgt := 185) dL_law_168 rfl rfl (by omega) (by omega) (fun c_168 => ?_) (fun c_168 => by exfalso; omega)
      refine xj_iconst (pc2 := 186) dL_law_185 rfl ?_
      refine xj_istore12 (pc2 := 188) dL_law_186 rfl (by decide) rfl ?_
      refine xj_iconst (pc2 := 189) dL_law_188 rfl ?_
      refine xj_istore13 (pc2 := 191) dL_law_189 rfl (by decide) rfl ?_
      exact s191 kn first h' hkn hf hJ hV
    · intro k hk ih2 h' hJ he
      have fin : XJ (some (L, xs)) 7 kL_law (hset h' 146 k (h' 145 k)) 164 [some (.ref 1000), some (.ref 0), some (.ref 145), some (.ref 146), some (vi tp), some (vi (29 * tp)), some (vi tt), some (vi x), some (vi kn), some (vi first), some (vl first), none, some (vi ((k : Int) + 1)), none, none, none, none, none] [] Q := by
        refine ih2 _ (JJ_far hJ (fun c j hc => hset_nc hc)) (fun i h0 h1 => ?_)
        rw [hset_nc (c := 146) (c' := 145) (by decide)]
        by_cases e : i = (k : Int)
        · subst e; rw [hset_eq]
        · rw [hset_nk e]; exact he i h0 (by omega)
      refine xj_iload (pc2 := 166) dL_law_164 rfl rfl ?_
      refine xj_bipush (pc2 := 168) dL_law_166 rfl (by decide) ?_
      refine xj_cmp_ge (pc2 := 171) (tgt := 185) dL_law_168 rfl rfl (by omega) (by omega) (fun c_168 => by exfalso; omega) (fun c_168 => ?_)
      refine xj_aload_n (pc2 := 172) dL_law_171 rfl rfl rfl ?_
      refine xj_iload (pc2 := 174) dL_law_172 rfl rfl ?_
      refine xj_aload_n (pc2 := 175) dL_law_174 rfl rfl rfl ?_
      refine xj_iload (pc2 := 177) dL_law_175 rfl rfl ?_
      refine xj_iald (pc2 := 178) dL_law_177 rfl rfl (by omega) (by omega) rfl ?_
      refine xj_iast (pc2 := 179) dL_law_178 rfl rfl (by omega) (by omega) ?_
      refine xj_iinc12 (pc2 := 182) dL_law_179 rfl (by decide) rfl ?_
      refine xj_goto (tgt := 164) dL_law_182 rfl ?_
      exact fin
  obtain ⟨kn, hkn⟩ : ∃ kn : Nat, 1 + x / 512 % 60 = (kn : Int) := ⟨(1 + x / 512 % 60).toNat, by omega⟩
  refine xj_iconst (pc2 := 127) dL_law_126 rfl ?_
  refine xj_iload (pc2 := 129) dL_law_127 rfl rfl ?_
  refine xj_sipush (pc2 := 132) dL_law_129 rfl (by decide) ?_
  refine xj_idiv (pc2 := 133) dL_law_132 rfl (by omega) (by omega) ?_
  refine xj_bipush (pc2 := 135) dL_law_133 rfl (by decide) ?_
  refine xj_irem (pc2 := 136) dL_law_135 rfl (by omega) (by omega) ?_
  refine xj_iadd (pc2 := 137) dL_law_136 rfl ?_
  refine xj_istore8 (pc2 := 139) dL_law_137 rfl (by decide) rfl ?_
  rw [hkn]
  refine xj_aload_n (pc2 := 140) dL_law_139 rfl rfl rfl ?_
  refine xj_iload (pc2 := 142) dL_law_140 rfl rfl ?_
  refine xj_bipush (pc2 := 144) dL_law_142 rfl (by decide) ?_
  refine xj_iadd (pc2 := 145) dL_law_144 rfl ?_
  refine xj_iload (pc2 := 147) dL_law_145 rfl rfl ?_
  refine xj_bipush (pc2 := 149) dL_law_147 rfl (by decide) ?_
  refine xj_idiv (pc2 := 150) dL_law_149 rfl (by omega) (by omega) ?_
  refine xj_iadd (pc2 := 151) dL_law_150 rfl ?_
  refine xj_cell (pc2 := 154) hLL (by omega) dL_law_151 rfl rfl (by decide) (Nat.le_of_ble_eq_true rfl) (fun v_151 hv_151 => ?_)
  refine xj_istore9 (pc2 := 156) dL_law_154 rfl (by decide) rfl ?_
  refine xj_iload (pc2 := 158) dL_law_156 rfl rfl ?_
  refine xj_i2l (pc2 := 159) dL_law_158 rfl (by omega) ?_
  refine xj_lstore10 (pc2 := 161) dL_law_159 rfl (by decide) rfl ?_
  exact s161 kn _ (by omega) hv_151
theorem law_loop {L : Nat} {xs : Int → Int} (hLL : L ≤ 4096) (hq : ∀ h, Q 1 h) (hK : KC S I 0 pg 0 0 0 h) (hKW : KW S I 0 0 0) : XJ (some (L, xs)) 7 kL_law h 18 [some (.ref 1000), some (.ref 0), some (.ref 145), some (.ref 146), none, none, none, none, none, none, none, none, none, none, none, none, none, none] [] Q := by
  refine xj_iconst (pc2 := 19) dL_law_18 rfl ?_
  refine xj_istore4 (pc2 := 21) dL_law_19 rfl (by decide) rfl ?_
  refine down (P := fun j => ∀ (S : Sh) (pg : Int → Int) (h : Hp), KC S I 0 pg 0 j 0 h → KW S I 0 j 0 → XJ (some (L, xs)) 7 kL_law h 21 [some (.ref 1000), some (.ref 0), some (.ref 145), some (.ref 146), some (vi j), none, none, none, none, none, none, none, none, none, none, none, none, none] [] Q) (n := 2) ?_ ?_ S pg h hK hKW
  · intro S pg h hK hKW
    refine xj_iload (pc2 := 23) dL_law_21 rfl rfl ?_
    refine xj_iconst (pc2 := 24) dL_law_23 rfl ?_
    refine xj_cmp_ge (pc2 := 27) (tgt := 797) dL_law_24 rfl rfl (by omega) (by omega) (fun c_24 => ?_) (fun c_24 => by exfalso; omega)
    refine xj_iconst (pc2 := 798) dL_law_797 rfl ?_
    refine xj_zret dL_law_798 rfl (by decide) ?_
    exact hq _
  · intro j hj ih S pg h hK hKW
    have h791 : ∀ (S1 : Sh) (pg1 : Int → Int) (h' : Hp), JJ S1 I pg1 ((j : Int) + 1) h' → XJ (some (L, xs)) 7 kL_law h' 791 [some (.ref 1000), some (.ref 0), some (.ref 145), some (.ref 146), some (vi j), some (vi (29 * (j : Int))), none, none, none, none, none, none, none, none, none, none, none, none] [] Q := by
      intro S1 pg1 h' hJ
      refine xj_iinc4 (pc2 := 794) dL_law_791 rfl (by decide) rfl ?_
      refine xj_goto (tgt := 21) dL_law_794 rfl ?_
      exact xj_sub (by repeat (first | exact subL_nil | apply subL_none | apply subL_some rfl)) (ih S1 pg1 h' hJ.1 hJ.2.1)
    have s70 : ∀ (S1 : Sh) (pg1 : Int → Int) (h1 : Hp), JJ S1 I pg1 ((j : Int) + 1) h1 → S1 6 2 = 0 → XJ (some (L, xs)) 7 kL_law h1 70 [some (.ref 1000), some (.ref 0), some (.ref 145), some (.ref 146), some (vi j), some (vi (29 * (j : Int))), some (vi 0), none, none, none, none, none, none, none, none, none, none, none] [] Q := by
      intro S1 pg1 h1 hJ hz
      refine down (P := fun t => ∀ (S2 : Sh) (h' : Hp), JJ S2 I pg1 ((j : Int) + 1) h' → S2 6 2 ≤ (t : Int) → XJ (some (L, xs)) 7 kL_law h' 70 [some (.ref 1000), some (.ref 0), some (.ref 145), some (.ref 146), some (vi j), some (vi (29 * (j : Int))), some (vi t), none, none, none, none, none, none, none, none, none, none, none] [] Q) (n := 22) ?_ ?_ S1 h1 hJ (by omega)
      · intro S2 h' hJ hle
        refine xj_iload (pc2 := 72) dL_law_70 rfl rfl ?_
        refine xj_bipush (pc2 := 74) dL_law_72 rfl (by decide) ?_
        refine xj_cmp_ge (pc2 := 77) (tgt := 490) dL_law_74 rfl rfl (by omega) (by omega) (fun c_74 => ?_) (fun c_74 => by exfalso; omega)
        exact xj_sub (by repeat (first | exact subL_nil | apply subL_none | apply subL_some rfl)) (law_refused hJ (fun h'' hJ => h791 _ _ _ hJ))
      · intro t ht ih2 S2 h' hJ hle
        have h484 : ∀ (S3 : Sh) (h' : Hp), S3 6 2 ≤ (t : Int) + 1 → JJ S3 I pg1 ((j : Int) + 1) h' → XJ (some (L, xs)) 7 kL_law h' 484 [some (.ref 1000), some (.ref 0), some (.ref 145), some (.ref 146), some (vi j), some (vi (29 * (j : Int))), some (vi t), none, none, none, none, none, none, none, none, none, none, none] [] Q := by
          intro S3 h' hle hJ
          refine xj_iinc6 (pc2 := 487) dL_law_484 rfl (by decide) rfl ?_
          refine xj_goto (tgt := 70) dL_law_487 rfl ?_
          exact ih2 S3 h' hJ (by omega)
        refine xj_iload (pc2 := 72) dL_law_70 rfl rfl ?_
        refine xj_bipush (pc2 := 74) dL_law_72 rfl (by decide) ?_
        refine xj_cmp_ge (pc2 := 77) (tgt := 490) dL_law_74 rfl rfl (by omega) (by omega) (fun c_74 => by exfalso; omega) (fun c_74 => ?_)
        refine xj_aload_n (pc2 := 78) dL_law_77 rfl rfl rfl ?_
        refine xj_iload (pc2 := 80) dL_law_78 rfl rfl ?_
        refine xj_iconst (pc2 := 81) dL_law_80 rfl ?_
        refine xj_iadd (pc2 := 82) dL_law_81 rfl ?_
        refine xj_iload (pc2 := 84) dL_law_82 rfl rfl ?_
        refine xj_iadd (pc2 := 85) dL_law_84 rfl ?_
        refine xj_cell (pc2 := 88) hLL (by omega) dL_law_85 rfl rfl (by decide) (Nat.le_of_ble_eq_true rfl) (fun v_85 hv_85 => ?_)
        refine xj_istore7 (pc2 := 90) dL_law_88 rfl (by decide) rfl ?_
        refine xj_aload_n (pc2 := 91) dL_law_90 rfl rfl rfl ?_
        refine xj_iload (pc2 := 93) dL_law_91 rfl rfl ?_
        refine xj_aload_n (pc2 := 94) dL_law_93 rfl rfl rfl ?_
        refine xj_S3I (pc2 := 97) (d2 := 5) mok_L_act ml_L_83 sta_yL_act dL_law_94 rfl rfl (by decide) (by decide) (Nat.le_of_ble_eq_true rfl) (fun _ => rfl) ?_
        refine c_L_act hJ hv_85 (by omega) ?_
        intro S3 h3 hJ3 hle3
        · -- L_act = 1
          intro c_94
          refine xj_if_eq (pc2 := 100) (tgt := 115) dL_law_97 rfl rfl (by omega) (fun c_97 => absurd c_97 (by decide)) (fun c_97 => ?_)
          refine xj_aload_n (pc2 := 101) dL_law_100 rfl rfl rfl ?_
          refine xj_aload_n (pc2 := 102) dL_law_101 rfl rfl rfl ?_
          refine xj_iload (pc2 := 104) dL_law_102 rfl rfl ?_
          refine xj_iconst (pc2 := 105) dL_law_104 rfl ?_
          refine xj_idiv (pc2 := 106) dL_law_105 rfl (by omega) (by omega) ?_
          refine xj_bipush (pc2 := 108) dL_law_106 rfl (by decide) ?_
          refine xj_irem (pc2 := 109) dL_law_108 rfl (by omega) (by omega) ?_
          refine xj_S3I (pc2 := 112) (d2 := 6) mok_L_told ml_L_79 sta_yL_told dL_law_109 rfl rfl (by decide) (by decide) (Nat.le_of_ble_eq_true rfl) (fun _ => rfl) ?_
          refine c_L_told hJ3 (by omega) ?_
          intro h4 hJ4
          · -- L_told = 1
            intro c_109
            refine xj_if_ne (pc2 := 115) (tgt := 117) dL_law_112 rfl rfl (by omega) (fun c_112 => ?_) (fun c_112 => absurd c_112 (by decide))
            refine xj_iload (pc2 := 119) dL_law_117 rfl rfl ?_
            refine xj_bipush (pc2 := 121) dL_law_119 rfl (by decide) ?_
            refine xj_irem (pc2 := 122) dL_law_121 rfl (by omega) (by omega) ?_
            refine xj_iconst (pc2 := 123) dL_law_122 rfl ?_
            refine xj_cmp_ne (pc2 := 126) (tgt := 484) dL_law_123 rfl rfl (by omega) (by omega) (fun c_123 => ?_) (fun c_123 => ?_)
            · -- 484
              exact xj_sub (by repeat (first | exact subL_nil | apply subL_none | apply subL_some rfl)) (h484 _ _ (by omega) hJ4)
            · -- 126
              exact xj_sub (by repeat (first | exact subL_nil | apply subL_none | apply subL_some rfl)) (law_teas hLL (by omega) (by omega) hv_85 hJ4 (fun h5 hJ5 => h484 _ _ (by omega) hJ5))
    have hKW2 : ∀ S1 : Sh, WF S1 → S1 6 2 = 0 → KW S1 I 0 ((j : Int) + 1) 0 := fun S1 w z => ⟨w, by omega, Or.inl rfl, fun q => absurd q (by decide), by omega, by decide⟩
    refine xj_iload (pc2 := 23) dL_law_21 rfl rfl ?_
    refine xj_iconst (pc2 := 24) dL_law_23 rfl ?_
    refine xj_cmp_ge (pc2 := 27) (tgt := 797) dL_law_24 rfl rfl (by omega) (by omega) (fun c_24 => by exfalso; omega) (fun c_24 => ?_)
    refine xj_bipush (pc2 := 29) dL_law_27 rfl (by decide) ?_
    refine xj_iload (pc2 := 31) dL_law_29 rfl rfl ?_
    refine xj_imul (pc2 := 32) dL_law_31 rfl ?_
    refine xj_istore5 (pc2 := 34) dL_law_32 rfl (by decide) rfl ?_
    refine xj_aload_n (pc2 := 35) dL_law_34 rfl rfl rfl ?_
    refine xj_aload_n (pc2 := 36) dL_law_35 rfl rfl rfl ?_
    refine xj_iload (pc2 := 38) dL_law_36 rfl rfl ?_
    refine xj_cell (pc2 := 41) hLL (by omega) dL_law_38 rfl rfl (by decide) (Nat.le_of_ble_eq_true rfl) (fun v_38 hv_38 => ?_)
    refine xj_aload_n (pc2 := 42) dL_law_41 rfl rfl rfl ?_
    refine xj_iload (pc2 := 44) dL_law_42 rfl rfl ?_
    refine xj_iconst (pc2 := 45) dL_law_44 rfl ?_
    refine xj_iadd (pc2 := 46) dL_law_45 rfl ?_
    refine xj_cell (pc2 := 49) hLL (by omega) dL_law_46 rfl rfl (by decide) (Nat.le_of_ble_eq_true rfl) (fun v_46 hv_46 => ?_)
    refine xj_aload_n (pc2 := 50) dL_law_49 rfl rfl rfl ?_
    refine xj_S4I (pc2 := 53) (d2 := 6) mok_L_shop ml_L_76 sta_yL_shop dL_law_50 rfl rfl (by decide) (by decide) (Nat.le_of_ble_eq_true rfl) (fun _ => rfl) ?_
    refine c_L_shop hK hv_38 hv_46 ?_
    intro S1 pg1 h1 k1 w1 z2 z3 z0 r1 w2
    · -- L_shop = 1
      intro c_50
      refine xj_if_eq (pc2 := 56) (tgt := 65) dL_law_53 rfl rfl (by omega) (fun c_53 => absurd c_53 (by decide)) (fun c_53 => ?_)
      refine xj_aload_n (pc2 := 57) dL_law_56 rfl rfl rfl ?_
      refine xj_aload_n (pc2 := 58) dL_law_57 rfl rfl rfl ?_
      refine xj_iconst (pc2 := 59) dL_law_58 rfl ?_
      refine xj_S3I (pc2 := 62) (d2 := 6) mok_L_told ml_L_79 sta_yL_told dL_law_59 rfl rfl (by decide) (by decide) (Nat.le_of_ble_eq_true rfl) (fun _ => rfl) ?_
      have hJ1 : JJ S1 I pg1 ((j : Int) + 1) h1 := ⟨k1, hKW2 S1 w1 z2, r1, w2.trans z2.symm, z3, z0⟩
      refine c_L_told hJ1 (by decide) ?_
      intro h2 hJ2
      · -- L_told = 1
        intro c_59
        refine xj_if_ne (pc2 := 65) (tgt := 67) dL_law_62 rfl rfl (by omega) (fun c_62 => ?_) (fun c_62 => absurd c_62 (by decide))
        refine xj_iconst (pc2 := 68) dL_law_67 rfl ?_
        refine xj_istore6 (pc2 := 70) dL_law_68 rfl (by decide) rfl ?_
        exact s70 _ _ _ hJ2 z2
end LA
