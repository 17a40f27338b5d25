theorem co_yX5_countDoing : Cond.code yX5_countDoing cX5_countDoing 4 (some .int) ∈ wT := mem_wT (i := 393) (by decide +kernel) (by decide +kernel)
theorem ml_X5_142 : Cond.methodLink RX5 142 yX5_moodOf ∈ wT := mem_wT (i := 394) (by decide +kernel) (by decide +kernel)
theorem ml_X6_235 : Cond.methodLink RX6 235 yX5_countOnHands ∈ wT := mem_wT (i := 395) (by decide +kernel) (by decide +kernel)
theorem ima_yX5_countOnHands : Cond.instanceMethod yX5_countOnHands ∈ wT := mem_wT (i := 396) (by decide +kernel) (by decide +kernel)
theorem sel_yX5_countOnHands : Cond.selects RX5 yX5_countOnHands yX5_countOnHands ∈ wT := mem_wT (i := 397) (by decide +kernel) (by decide +kernel)
theorem co_yX5_countOnHands : Cond.code yX5_countOnHands cX5_countOnHands 1 (some .int) ∈ wT := mem_wT (i := 398) (by decide +kernel) (by decide +kernel)
theorem ml_L_73 : Cond.methodLink RL 73 yL_cell ∈ wT := mem_wT (i := 399) (by decide +kernel) (by decide +kernel)
theorem sta_yL_cell : Cond.static yL_cell ∈ wT := mem_wT (i := 400) (by decide +kernel) (by decide +kernel)
theorem co_yL_cell : Cond.code yL_cell cL_cell 2 (some .int) ∈ wT := mem_wT (i := 401) (by decide +kernel) (by decide +kernel)
theorem k_L_7 : Cond.constant RL 7 (2147483647) ∈ wT := mem_wT (i := 402) (by decide +kernel) (by decide +kernel)
theorem ml_L_76 : Cond.methodLink RL 76 yL_shop ∈ wT := mem_wT (i := 403) (by decide +kernel) (by decide +kernel)
theorem sta_yL_shop : Cond.static yL_shop ∈ wT := mem_wT (i := 404) (by decide +kernel) (by decide +kernel)
theorem co_yL_shop : Cond.code yL_shop cL_shop 8 (some .boolean) ∈ wT := mem_wT (i := 405) (by decide +kernel) (by decide +kernel)
theorem ml_L_14 : Cond.methodLink RL 14 yL_put ∈ wT := mem_wT (i := 406) (by decide +kernel) (by decide +kernel)
theorem sta_yL_put : Cond.static yL_put ∈ wT := mem_wT (i := 407) (by decide +kernel) (by decide +kernel)
theorem co_yL_put : Cond.code yL_put cL_put 2 (some .boolean) ∈ wT := mem_wT (i := 408) (by decide +kernel) (by decide +kernel)
theorem ml_L_8 : Cond.methodLink RL 8 yX6_letter ∈ wT := mem_wT (i := 409) (by decide +kernel) (by decide +kernel)
theorem ima_yX6_letter : Cond.instanceMethod yX6_letter ∈ wT := mem_wT (i := 410) (by decide +kernel) (by decide +kernel)
theorem sel_yX6_letter : Cond.selects RX6 yX6_letter yX6_letter ∈ wT := mem_wT (i := 411) (by decide +kernel) (by decide +kernel)
theorem co_yX6_letter : Cond.code yX6_letter cX6_letter 2 (some .int) ∈ wT := mem_wT (i := 412) (by decide +kernel) (by decide +kernel)
theorem ml_X6_61 : Cond.methodLink RX6 61 yX4_add ∈ wT := mem_wT (i := 413) (by decide +kernel) (by decide +kernel)
theorem ima_yX4_add : Cond.instanceMethod yX4_add ∈ wT := mem_wT (i := 414) (by decide +kernel) (by decide +kernel)
theorem sel_yX4_add : Cond.selects RX4 yX4_add yX4_add ∈ wT := mem_wT (i := 415) (by decide +kernel) (by decide +kernel)
theorem co_yX4_add : Cond.code yX4_add cX4_add 2 (some .boolean) ∈ wT := mem_wT (i := 416) (by decide +kernel) (by decide +kernel)
theorem ml_L_20 : Cond.methodLink RL 20 yX6_fault ∈ wT := mem_wT (i := 418) (by decide +kernel) (by decide +kernel)
theorem ima_yX6_fault : Cond.instanceMethod yX6_fault ∈ wT := mem_wT (i := 419) (by decide +kernel) (by decide +kernel)
theorem sel_yX6_fault : Cond.selects RX6 yX6_fault yX6_fault ∈ wT := mem_wT (i := 420) (by decide +kernel) (by decide +kernel)
theorem co_yX6_fault : Cond.code yX6_fault cX6_fault 1 (some .int) ∈ wT := mem_wT (i := 421) (by decide +kernel) (by decide +kernel)
theorem ml_X6_69 : Cond.methodLink RX6 69 yX4_firstFault ∈ wT := mem_wT (i := 422) (by decide +kernel) (by decide +kernel)
theorem ima_yX4_firstFault : Cond.instanceMethod yX4_firstFault ∈ wT := mem_wT (i := 423) (by decide +kernel) (by decide +kernel)
theorem sel_yX4_firstFault : Cond.selects RX4 yX4_firstFault yX4_firstFault ∈ wT := mem_wT (i := 424) (by decide +kernel) (by decide +kernel)
theorem co_yX4_firstFault : Cond.code yX4_firstFault cX4_firstFault 5 (some .int) ∈ wT := mem_wT (i := 425) (by decide +kernel) (by decide +kernel)
theorem ml_X4_27 : Cond.methodLink RX4 27 yX4_semicolon ∈ wT := mem_wT (i := 426) (by decide +kernel) (by decide +kernel)
theorem ima_yX4_semicolon : Cond.instanceMethod yX4_semicolon ∈ wT := mem_wT (i := 427) (by decide +kernel) (by decide +kernel)
theorem sel_yX4_semicolon : Cond.selects RX4 yX4_semicolon yX4_semicolon ∈ wT := mem_wT (i := 428) (by decide +kernel) (by decide +kernel)
theorem co_yX4_semicolon : Cond.code yX4_semicolon cX4_semicolon 2 (some .int) ∈ wT := mem_wT (i := 429) (by decide +kernel) (by decide +kernel)
theorem ml_X4_31 : Cond.methodLink RX4 31 yX4_isNerve ∈ wT := mem_wT (i := 431) (by decide +kernel) (by decide +kernel)
theorem sta_yX4_isNerve : Cond.static yX4_isNerve ∈ wT := mem_wT (i := 432) (by decide +kernel) (by decide +kernel)
theorem co_yX4_isNerve : Cond.code yX4_isNerve cX4_isNerve 2 (some .boolean) ∈ wT := mem_wT (i := 433) (by decide +kernel) (by decide +kernel)
theorem ml_X4_45 : Cond.methodLink RX4 45 yX4_isDigit ∈ wT := mem_wT (i := 434) (by decide +kernel) (by decide +kernel)
theorem sta_yX4_isDigit : Cond.static yX4_isDigit ∈ wT := mem_wT (i := 435) (by decide +kernel) (by decide +kernel)
theorem co_yX4_isDigit : Cond.code yX4_isDigit cX4_isDigit 1 (some .boolean) ∈ wT := mem_wT (i := 436) (by decide +kernel) (by decide +kernel)
theorem ml_X4_35 : Cond.methodLink RX4 35 yX4_isOfGloves ∈ wT := mem_wT (i := 438) (by decide +kernel) (by decide +kernel)
theorem sta_yX4_isOfGloves : Cond.static yX4_isOfGloves ∈ wT := mem_wT (i := 439) (by decide +kernel) (by decide +kernel)
theorem co_yX4_isOfGloves : Cond.code yX4_isOfGloves cX4_isOfGloves 3 (some .boolean) ∈ wT := mem_wT (i := 440) (by decide +kernel) (by decide +kernel)
theorem sta_yX6_kindOf : Cond.static yX6_kindOf ∈ wT := mem_wT (i := 442) (by decide +kernel) (by decide +kernel)
theorem co_yX6_kindOf : Cond.code yX6_kindOf cX6_kindOf 1 (some .int) ∈ wT := mem_wT (i := 443) (by decide +kernel) (by decide +kernel)
theorem ml_L_24 : Cond.methodLink RL 24 yX6_shop ∈ wT := mem_wT (i := 444) (by decide +kernel) (by decide +kernel)
theorem ima_yX6_shop : Cond.instanceMethod yX6_shop ∈ wT := mem_wT (i := 445) (by decide +kernel) (by decide +kernel)
theorem sel_yX6_shop : Cond.selects RX6 yX6_shop yX6_shop ∈ wT := mem_wT (i := 446) (by decide +kernel) (by decide +kernel)
theorem co_yX6_shop : Cond.code yX6_shop cX6_shop 1 (some .int) ∈ wT := mem_wT (i := 447) (by decide +kernel) (by decide +kernel)
theorem ml_X6_73 : Cond.methodLink RX6 73 yX4_isShop ∈ wT := mem_wT (i := 448) (by decide +kernel) (by decide +kernel)
theorem ima_yX4_isShop : Cond.instanceMethod yX4_isShop ∈ wT := mem_wT (i := 449) (by decide +kernel) (by decide +kernel)
theorem sel_yX4_isShop : Cond.selects RX4 yX4_isShop yX4_isShop ∈ wT := mem_wT (i := 450) (by decide +kernel) (by decide +kernel)
theorem co_yX4_isShop : Cond.code yX4_isShop cX4_isShop 2 (some .boolean) ∈ wT := mem_wT (i := 451) (by decide +kernel) (by decide +kernel)
theorem ml_X4_38 : Cond.methodLink RX4 38 yX4_firstFault ∈ wT := mem_wT (i := 452) (by decide +kernel) (by decide +kernel)
theorem ml_X6_77 : Cond.methodLink RX6 77 yX4_readInto ∈ wT := mem_wT (i := 453) (by decide +kernel) (by decide +kernel)
theorem ima_yX4_readInto : Cond.instanceMethod yX4_readInto ∈ wT := mem_wT (i := 454) (by decide +kernel) (by decide +kernel)
theorem sel_yX4_readInto : Cond.selects RX4 yX4_readInto yX4_readInto ∈ wT := mem_wT (i := 455) (by decide +kernel) (by decide +kernel)
theorem co_yX4_readInto : Cond.code yX4_readInto cX4_readInto 4 none ∈ wT := mem_wT (i := 456) (by decide +kernel) (by decide +kernel)
theorem ml_X4_53 : Cond.methodLink RX4 53 yX5_open ∈ wT := mem_wT (i := 457) (by decide +kernel) (by decide +kernel)
theorem ima_yX5_open : Cond.instanceMethod yX5_open ∈ wT := mem_wT (i := 458) (by decide +kernel) (by decide +kernel)
theorem sel_yX5_open : Cond.selects RX5 yX5_open yX5_open ∈ wT := mem_wT (i := 459) (by decide +kernel) (by decide +kernel)
theorem co_yX5_open : Cond.code yX5_open cX5_open 3 none ∈ wT := mem_wT (i := 460) (by decide +kernel) (by decide +kernel)
theorem ml_L_39 : Cond.methodLink RL 39 yL_mood ∈ wT := mem_wT (i := 461) (by decide +kernel) (by decide +kernel)
theorem sta_yL_mood : Cond.static yL_mood ∈ wT := mem_wT (i := 462) (by decide +kernel) (by decide +kernel)
theorem co_yL_mood : Cond.code yL_mood cL_mood 7 (some .int) ∈ wT := mem_wT (i := 463) (by decide +kernel) (by decide +kernel)
theorem ml_L_31 : Cond.methodLink RL 31 yL_then ∈ wT := mem_wT (i := 464) (by decide +kernel) (by decide +kernel)
theorem sta_yL_then : Cond.static yL_then ∈ wT := mem_wT (i := 465) (by decide +kernel) (by decide +kernel)
theorem co_yL_then : Cond.code yL_then cL_then 4 (some .int) ∈ wT := mem_wT (i := 466) (by decide +kernel) (by decide +kernel)
theorem ml_L_27 : Cond.methodLink RL 27 yL_temper ∈ wT := mem_wT (i := 467) (by decide +kernel) (by decide +kernel)
theorem sta_yL_temper : Cond.static yL_temper ∈ wT := mem_wT (i := 468) (by decide +kernel) (by decide +kernel)
theorem co_yL_temper : Cond.code yL_temper cL_temper 4 (some .int) ∈ wT := mem_wT (i := 469) (by decide +kernel) (by decide +kernel)
theorem ml_L_35 : Cond.methodLink RL 35 yL_quarrel ∈ wT := mem_wT (i := 470) (by decide +kernel) (by decide +kernel)
theorem sta_yL_quarrel : Cond.static yL_quarrel ∈ wT := mem_wT (i := 471) (by decide +kernel) (by decide +kernel)
theorem co_yL_quarrel : Cond.code yL_quarrel cL_quarrel 5 (some .boolean) ∈ wT := mem_wT (i := 472) (by decide +kernel) (by decide +kernel)
theorem ml_L_58 : Cond.methodLink RL 58 yL_worn ∈ wT := mem_wT (i := 473) (by decide +kernel) (by decide +kernel)
theorem sta_yL_worn : Cond.static yL_worn ∈ wT := mem_wT (i := 474) (by decide +kernel) (by decide +kernel)
theorem co_yL_worn : Cond.code yL_worn cL_worn 4 (some .int) ∈ wT := mem_wT (i := 475) (by decide +kernel) (by decide +kernel)
theorem ml_L_43 : Cond.methodLink RL 43 yL_doing ∈ wT := mem_wT (i := 476) (by decide +kernel) (by decide +kernel)
theorem sta_yL_doing : Cond.static yL_doing ∈ wT := mem_wT (i := 477) (by decide +kernel) (by decide +kernel)
theorem co_yL_doing : Cond.code yL_doing cL_doing 1 (some .int) ∈ wT := mem_wT (i := 478) (by decide +kernel) (by decide +kernel)
theorem ml_L_52 : Cond.methodLink RL 52 yL_onHand ∈ wT := mem_wT (i := 479) (by decide +kernel) (by decide +kernel)
theorem sta_yL_onHand : Cond.static yL_onHand ∈ wT := mem_wT (i := 480) (by decide +kernel) (by decide +kernel)
theorem co_yL_onHand : Cond.code yL_onHand cL_onHand 5 (some .int) ∈ wT := mem_wT (i := 481) (by decide +kernel) (by decide +kernel)
theorem ml_L_46 : Cond.methodLink RL 46 yL_hour ∈ wT := mem_wT (i := 482) (by decide +kernel) (by decide +kernel)
theorem sta_yL_hour : Cond.static yL_hour ∈ wT := mem_wT (i := 483) (by decide +kernel) (by decide +kernel)
theorem co_yL_hour : Cond.code yL_hour cL_hour 2 none ∈ wT := mem_wT (i := 484) (by decide +kernel) (by decide +kernel)
theorem ml_L_100 : Cond.methodLink RL 100 yL_ones ∈ wT := mem_wT (i := 485) (by decide +kernel) (by decide +kernel)
theorem sta_yL_ones : Cond.static yL_ones ∈ wT := mem_wT (i := 486) (by decide +kernel) (by decide +kernel)
theorem co_yL_ones : Cond.code yL_ones cL_ones 3 (some .int) ∈ wT := mem_wT (i := 487) (by decide +kernel) (by decide +kernel)
theorem ml_L_83 : Cond.methodLink RL 83 yL_act ∈ wT := mem_wT (i := 488) (by decide +kernel) (by decide +kernel)
theorem sta_yL_act : Cond.static yL_act ∈ wT := mem_wT (i := 489) (by decide +kernel) (by decide +kernel)
theorem co_yL_act : Cond.code yL_act cL_act 8 (some .boolean) ∈ wT := mem_wT (i := 490) (by decide +kernel) (by decide +kernel)
theorem ml_L_50 : Cond.methodLink RL 50 yX6_hour ∈ wT := mem_wT (i := 491) (by decide +kernel) (by decide +kernel)
theorem ima_yX6_hour : Cond.instanceMethod yX6_hour ∈ wT := mem_wT (i := 492) (by decide +kernel) (by decide +kernel)
theorem sel_yX6_hour : Cond.selects RX6 yX6_hour yX6_hour ∈ wT := mem_wT (i := 493) (by decide +kernel) (by decide +kernel)
theorem co_yX6_hour : Cond.code yX6_hour cX6_hour 1 (some .int) ∈ wT := mem_wT (i := 494) (by decide +kernel) (by decide +kernel)
theorem ml_L_79 : Cond.methodLink RL 79 yL_told ∈ wT := mem_wT (i := 495) (by decide +kernel) (by decide +kernel)
theorem sta_yL_told : Cond.static yL_told ∈ wT := mem_wT (i := 496) (by decide +kernel) (by decide +kernel)
theorem ml_L_114 : Cond.methodLink RL 114 yL_well ∈ wT := mem_wT (i := 498) (by decide +kernel) (by decide +kernel)
theorem sta_yL_well : Cond.static yL_well ∈ wT := mem_wT (i := 499) (by decide +kernel) (by decide +kernel)
theorem co_yL_well : Cond.code yL_well cL_well 3 (some .boolean) ∈ wT := mem_wT (i := 500) (by decide +kernel) (by decide +kernel)
theorem ml_L_118 : Cond.methodLink RL 118 yX6_count ∈ wT := mem_wT (i := 501) (by decide +kernel) (by decide +kernel)
theorem ima_yX6_count : Cond.instanceMethod yX6_count ∈ wT := mem_wT (i := 502) (by decide +kernel) (by decide +kernel)
theorem sel_yX6_count : Cond.selects RX6 yX6_count yX6_count ∈ wT := mem_wT (i := 503) (by decide +kernel) (by decide +kernel)
theorem co_yX6_count : Cond.code yX6_count cX6_count 2 (some .int) ∈ wT := mem_wT (i := 504) (by decide +kernel) (by decide +kernel)
theorem ml_X6_241 : Cond.methodLink RX6 241 yX5_countPleased ∈ wT := mem_wT (i := 505) (by decide +kernel) (by decide +kernel)
theorem ima_yX5_countPleased : Cond.instanceMethod yX5_countPleased ∈ wT := mem_wT (i := 506) (by decide +kernel) (by decide +kernel)
theorem sel_yX5_countPleased : Cond.selects RX5 yX5_countPleased yX5_countPleased ∈ wT := mem_wT (i := 507) (by decide +kernel) (by decide +kernel)
theorem co_yX5_countPleased : Cond.code yX5_countPleased cX5_countPleased 3 (some .int) ∈ wT := mem_wT (i := 508) (by decide +kernel) (by decide +kernel)
theorem ml_X5_145 : Cond.methodLink RX5 145 yX5_pleases ∈ wT := mem_wT (i := 509) (by decide +kernel) (by decide +kernel)
theorem ml_X6_244 : Cond.methodLink RX6 244 yX5_countQuarrels ∈ wT := mem_wT (i := 510) (by decide +kernel) (by decide +kernel)
theorem ima_yX5_countQuarrels : Cond.instanceMethod yX5_countQuarrels ∈ wT := mem_wT (i := 511) (by decide +kernel) (by decide +kernel)
theorem sel_yX5_countQuarrels : Cond.selects RX5 yX5_countQuarrels yX5_countQuarrels ∈ wT := mem_wT (i := 512) (by decide +kernel) (by decide +kernel)
theorem co_yX5_countQuarrels : Cond.code yX5_countQuarrels cX5_countQuarrels 3 (some .int) ∈ wT := mem_wT (i := 513) (by decide +kernel) (by decide +kernel)
theorem ml_X5_148 : Cond.methodLink RX5 148 yX5_quarrels ∈ wT := mem_wT (i := 514) (by decide +kernel) (by decide +kernel)
theorem ml_X6_247 : Cond.methodLink RX6 247 yX5_sumOfTempers ∈ wT := mem_wT (i := 515) (by decide +kernel) (by decide +kernel)
theorem ima_yX5_sumOfTempers : Cond.instanceMethod yX5_sumOfTempers ∈ wT := mem_wT (i := 516) (by decide +kernel) (by decide +kernel)
theorem sel_yX5_sumOfTempers : Cond.selects RX5 yX5_sumOfTempers yX5_sumOfTempers ∈ wT := mem_wT (i := 517) (by decide +kernel) (by decide +kernel)
theorem co_yX5_sumOfTempers : Cond.code yX5_sumOfTempers cX5_sumOfTempers 3 (some .int) ∈ wT := mem_wT (i := 518) (by decide +kernel) (by decide +kernel)
theorem k_L_87 : Cond.constantLong RL 87 (1103515245) ∈ wT := mem_wT (i := 519) (by decide +kernel) (by decide +kernel)
theorem k_L_89 : Cond.constantLong RL 89 (12345) ∈ wT := mem_wT (i := 520) (by decide +kernel) (by decide +kernel)
theorem k_L_91 : Cond.constantLong RL 91 (2147483648) ∈ wT := mem_wT (i := 521) (by decide +kernel) (by decide +kernel)
theorem k_L_93 : Cond.constantLong RL 93 (65536) ∈ wT := mem_wT (i := 522) (by decide +kernel) (by decide +kernel)
theorem k_L_95 : Cond.constantLong RL 95 (2) ∈ wT := mem_wT (i := 523) (by decide +kernel) (by decide +kernel)
theorem inX0 : ∀ w ∈ wsX00, w ∈ wT := by
  have h : wsX00 = ([155, 157] : List Nat).filterMap (fun i => lw_tbl[i]?) := by decide +kernel
  have h2 : wsX00.all goodWord = true := by decide +kernel
  intro w hw
  have h3 := List.all_eq_true.mp h2 w hw
  rw [h] at hw
  obtain ⟨i, -, hi⟩ := List.mem_filterMap.mp hw
  exact mem_wT hi h3
theorem inX1 : ∀ w ∈ wsX10, w ∈ wT := by
  have h : wsX10 = ([168] : List Nat).filterMap (fun i => lw_tbl[i]?) := by decide +kernel
  have h2 : wsX10.all goodWord = true := by decide +kernel
  intro w hw
  have h3 := List.all_eq_true.mp h2 w hw
  rw [h] at hw
  obtain ⟨i, -, hi⟩ := List.mem_filterMap.mp hw
  exact mem_wT hi h3
theorem inX2 : ∀ w ∈ wsX20, w ∈ wT := by
  have h : wsX20 = ([114, 116, 118, 120, 122, 124] : List Nat).filterMap (fun i => lw_tbl[i]?) := by decide +kernel
  have h2 : wsX20.all goodWord = true := by decide +kernel
  intro w hw
  have h3 := List.all_eq_true.mp h2 w hw
  rw [h] at hw
  obtain ⟨i, -, hi⟩ := List.mem_filterMap.mp hw
  exact mem_wT hi h3
theorem inX3 : ∀ w ∈ wsX30, w ∈ wT := by
  have h : wsX30 = ([137, 139, 141, 143, 145] : List Nat).filterMap (fun i => lw_tbl[i]?) := by decide +kernel
  have h2 : wsX30.all goodWord = true := by decide +kernel
  intro w hw
  have h3 := List.all_eq_true.mp h2 w hw
  rw [h] at hw
  obtain ⟨i, -, hi⟩ := List.mem_filterMap.mp hw
  exact mem_wT hi h3
theorem inX4 : ∀ w ∈ wsX40, w ∈ wT := by
  have h : wsX40 = ([30, 32] : List Nat).filterMap (fun i => lw_tbl[i]?) := by decide +kernel
  have h2 : wsX40.all goodWord = true := by decide +kernel
  intro w hw
  have h3 := List.all_eq_true.mp h2 w hw
  rw [h] at hw
  obtain ⟨i, -, hi⟩ := List.mem_filterMap.mp hw
  exact mem_wT hi h3
theorem inX5 : ∀ w ∈ wsX50, w ∈ wT := by
  have h : wsX50 = ([73, 75, 77, 79, 81, 83, 85, 87, 89, 91, 93, 95, 97, 99, 101] : List Nat).filterMap (fun i => lw_tbl[i]?) := by decide +kernel
  have h2 : wsX50.all goodWord = true := by decide +kernel
  intro w hw
  have h3 := List.all_eq_true.mp h2 w hw
  rw [h] at hw
  obtain ⟨i, -, hi⟩ := List.mem_filterMap.mp hw
  exact mem_wT hi h3
theorem inX6 : ∀ w ∈ wsX60, w ∈ wT := by
  have h : wsX60 = ([182, 184, 186, 188, 190, 192, 194, 196, 198, 200, 202] : List Nat).filterMap (fun i => lw_tbl[i]?) := by decide +kernel
  have h2 : wsX60.all goodWord = true := by decide +kernel
  intro w hw
  have h3 := List.all_eq_true.mp h2 w hw
  rw [h] at hw
  obtain ⟨i, -, hi⟩ := List.mem_filterMap.mp hw
  exact mem_wT hi h3
def nestL : List (String × Nat × MethodName × String) := [(RX6, 11, yX4_init, "KidGloves"), (RX6, 18, yX5_init, "KidGloves"), (RX6, 31, yX2_init, "KidGloves"), (RX6, 38, yX3_init, "KidGloves"), (RX6, 45, yX0_init, "KidGloves"), (RX6, 52, yX1_init, "KidGloves"), (RX5, 72, yX6_at, "KidGloves"), (RX5, 76, yX6_ageOf, "KidGloves"), (RX5, 80, yX6_temperOf, "KidGloves"), (RX5, 93, yX6_hasBit, "KidGloves"), (RX5, 68, yX6_put, "KidGloves"), (RX5, 109, yX6_doing, "KidGloves"), (RX5, 64, yX6_copyRow, "KidGloves"), (RX4, 19, yX6_put, "KidGloves"), (RX4, 23, yX6_at, "KidGloves"), (RX4, 49, yX6_within, "KidGloves"), (RX4, 41, yX6_kindOf, "KidGloves")]
theorem mn_X6_11 : (RX6, 11, yX4_init, "KidGloves") ∈ nestL := List.mem_of_getElem? (i := 0) rfl
theorem mn_X6_18 : (RX6, 18, yX5_init, "KidGloves") ∈ nestL := List.mem_of_getElem? (i := 1) rfl
theorem mn_X6_31 : (RX6, 31, yX2_init, "KidGloves") ∈ nestL := List.mem_of_getElem? (i := 2) rfl
theorem mn_X6_38 : (RX6, 38, yX3_init, "KidGloves") ∈ nestL := List.mem_of_getElem? (i := 3) rfl
theorem mn_X6_45 : (RX6, 45, yX0_init, "KidGloves") ∈ nestL := List.mem_of_getElem? (i := 4) rfl
theorem mn_X6_52 : (RX6, 52, yX1_init, "KidGloves") ∈ nestL := List.mem_of_getElem? (i := 5) rfl
theorem mn_X5_72 : (RX5, 72, yX6_at, "KidGloves") ∈ nestL := List.mem_of_getElem? (i := 6) rfl
theorem mn_X5_76 : (RX5, 76, yX6_ageOf, "KidGloves") ∈ nestL := List.mem_of_getElem? (i := 7) rfl
theorem mn_X5_80 : (RX5, 80, yX6_temperOf, "KidGloves") ∈ nestL := List.mem_of_getElem? (i := 8) rfl
theorem mn_X5_93 : (RX5, 93, yX6_hasBit, "KidGloves") ∈ nestL := List.mem_of_getElem? (i := 9) rfl
theorem mn_X5_68 : (RX5, 68, yX6_put, "KidGloves") ∈ nestL := List.mem_of_getElem? (i := 10) rfl
theorem mn_X5_109 : (RX5, 109, yX6_doing, "KidGloves") ∈ nestL := List.mem_of_getElem? (i := 11) rfl
theorem mn_X5_64 : (RX5, 64, yX6_copyRow, "KidGloves") ∈ nestL := List.mem_of_getElem? (i := 12) rfl
theorem mn_X4_19 : (RX4, 19, yX6_put, "KidGloves") ∈ nestL := List.mem_of_getElem? (i := 13) rfl
theorem mn_X4_23 : (RX4, 23, yX6_at, "KidGloves") ∈ nestL := List.mem_of_getElem? (i := 14) rfl
theorem mn_X4_49 : (RX4, 49, yX6_within, "KidGloves") ∈ nestL := List.mem_of_getElem? (i := 15) rfl
theorem mn_X4_41 : (RX4, 41, yX6_kindOf, "KidGloves") ∈ nestL := List.mem_of_getElem? (i := 16) rfl
theorem nest_in : ∀ q ∈ nestL, Cond.methodLinkNest q.1 q.2.1 q.2.2.1 q.2.2.2 ∈ lw_tbl := by
  have h : nestL.map (fun q => Cond.methodLinkNest q.1 q.2.1 q.2.2.1 q.2.2.2) = ([23, 38, 106, 129, 150, 162, 220, 221, 224, 255, 258, 308, 364, 417, 430, 437, 441] : List Nat).filterMap (fun i => lw_tbl[i]?) := by decide +kernel
  intro q hq
  have h1 : Cond.methodLinkNest q.1 q.2.1 q.2.2.1 q.2.2.2 ∈ nestL.map (fun q => Cond.methodLinkNest q.1 q.2.1 q.2.2.1 q.2.2.2) := List.mem_map.mpr ⟨q, hq, rfl⟩
  rw [h] at h1
  obtain ⟨i, -, hi⟩ := List.mem_filterMap.mp h1
  exact List.mem_of_getElem? hi
