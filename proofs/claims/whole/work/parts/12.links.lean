theorem TT_all {ws : List Cond} (ps : List Nat) (hp : ws = ps.filterMap (fun i => lw_tbl[i]?)) (h : ws.all goodWord = true) : ∀ w ∈ ws, w ∈ TT := fun w hw => by
  have h1 := List.all_eq_true.mp h w hw
  rw [hp] at hw
  obtain ⟨i, -, hi⟩ := List.mem_filterMap.mp hw
  exact TT_of hi h1
theorem cls_X0 : CLS 0 RX0 TX0 16 tyX0 := ⟨rfl, TT_all [370, 372, 374, 376, 378, 380, 382, 384, 386, 388, 390, 392, 394, 396, 398, 400] (by decide +kernel) (by decide +kernel), tyX0_ok, nmX0⟩
theorem cls_X1 : CLS 1 RX1 TX1 18 tyX1 := ⟨rfl, TT_all [254, 256, 258, 260, 262, 264, 266, 268, 270, 272, 274, 276, 278, 280, 282, 284, 286, 288] (by decide +kernel) (by decide +kernel), tyX1_ok, nmX1⟩
theorem cls_X2 : CLS 2 RX2 TX2 3 tyX2 := ⟨rfl, TT_all [201, 203, 205] (by decide +kernel) (by decide +kernel), tyX2_ok, nmX2⟩
theorem cls_X3 : CLS 3 RX3 TX3 10 tyX3 := ⟨rfl, TT_all [444, 446, 448, 450, 452, 454, 456, 458, 460, 462] (by decide +kernel) (by decide +kernel), tyX3_ok, nmX3⟩
theorem cls_X4 : CLS 4 RX4 TX4 5 tyX4 := ⟨rfl, TT_all [414, 416, 418, 420, 422] (by decide +kernel) (by decide +kernel), tyX4_ok, nmX4⟩
theorem cls_X5 : CLS 5 RX5 TX5 7 tyX5 := ⟨rfl, TT_all [482, 484, 486, 488, 490, 492, 494] (by decide +kernel) (by decide +kernel), tyX5_ok, nmX5⟩
theorem cls_X7 : CLS 6 RX7 TX7 12 tyX7 := ⟨rfl, TT_all [153, 155, 157, 159, 161, 163, 165, 167, 169, 171, 173, 175] (by decide +kernel) (by decide +kernel), tyX7_ok, nmX7⟩
theorem cls_X8 : CLS 7 RX8 TX8 8 tyX8 := ⟨rfl, TT_all [301, 303, 305, 307, 309, 311, 313, 315] (by decide +kernel) (by decide +kernel), tyX8_ok, nmX8⟩
theorem cls_X9 : CLS 8 RX9 TX9 6 tyX9 := ⟨rfl, TT_all [338, 340, 342, 344, 346, 348] (by decide +kernel) (by decide +kernel), tyX9_ok, nmX9⟩
theorem cls_X11 : CLS 10 RX11 TX11 9 tyX11 := ⟨rfl, TT_all [506, 508, 510, 512, 514, 516, 518, 520, 522] (by decide +kernel) (by decide +kernel), tyX11_ok, nmX11⟩
theorem cls_X12 : CLS 11 RX12 TX12 36 tyX12 := ⟨rfl, TT_all [1536, 1538, 1540, 1542, 1544, 1546, 1548, 1550, 1552, 1554, 1556, 1558, 1560, 1562, 1564, 1566, 1568, 1570, 1572, 1574, 1576, 1578, 1580, 1582, 1584, 1586, 1588, 1590, 1592, 1594, 1596, 1598, 1600, 1602, 1604, 1606] (by decide +kernel) (by decide +kernel), tyX12_ok, nmX12⟩
abbrev mX11_init : MI := (yX11_init, cX11_init, 1, none)
theorem ml_X11_init : ML mX11_init 0 := ⟨TT_of (i := 122) (by decide +kernel) rfl, TT_of (i := 92) (by decide +kernel) rfl, ⟨by decide +kernel, by decide +kernel⟩, by decide +kernel⟩
theorem ic_X11_init : Cond.instanceMethod yX11_init ∈ TT := TT_of (i := 121) (by decide +kernel) rfl
abbrev mX7_init : MI := (yX7_init, cX7_init, 1, none)
theorem ml_X7_init : ML mX7_init 0 := ⟨TT_of (i := 130) (by decide +kernel) rfl, TT_of (i := 93) (by decide +kernel) rfl, ⟨by decide +kernel, by decide +kernel⟩, by decide +kernel⟩
theorem ic_X7_init : Cond.instanceMethod yX7_init ∈ TT := TT_of (i := 129) (by decide +kernel) rfl
abbrev mX8_init : MI := (yX8_init, cX8_init, 2, none)
theorem ml_X8_init : ML mX8_init 1 := ⟨TT_of (i := 183) (by decide +kernel) rfl, TT_of (i := 96) (by decide +kernel) rfl, ⟨by decide +kernel, by decide +kernel⟩, by decide +kernel⟩
theorem ic_X8_init : Cond.instanceMethod yX8_init ∈ TT := TT_of (i := 182) (by decide +kernel) rfl
abbrev mX1_init : MI := (yX1_init, cX1_init, 1, none)
theorem ml_X1_init : ML mX1_init 0 := ⟨TT_of (i := 189) (by decide +kernel) rfl, TT_of (i := 97) (by decide +kernel) rfl, ⟨by decide +kernel, by decide +kernel⟩, by decide +kernel⟩
theorem ic_X1_init : Cond.instanceMethod yX1_init ∈ TT := TT_of (i := 188) (by decide +kernel) rfl
abbrev mX2_init_ : MI := (yX2_init_, cX2_init_, 1, none)
theorem ml_X2_init_ : ML mX2_init_ 0 := ⟨TT_of (i := 195) (by decide +kernel) rfl, TT_of (i := 98) (by decide +kernel) rfl, ⟨by decide +kernel, by decide +kernel⟩, by decide +kernel⟩
theorem ic_X2_init_ : Cond.instanceMethod yX2_init_ ∈ TT := TT_of (i := 194) (by decide +kernel) rfl
abbrev mX0_init : MI := (yX0_init, cX0_init, 2, none)
theorem ml_X0_init : ML mX0_init 1 := ⟨TT_of (i := 324) (by decide +kernel) rfl, TT_of (i := 99) (by decide +kernel) rfl, ⟨by decide +kernel, by decide +kernel⟩, by decide +kernel⟩
theorem ic_X0_init : Cond.instanceMethod yX0_init ∈ TT := TT_of (i := 323) (by decide +kernel) rfl
abbrev mX9_init : MI := (yX9_init, cX9_init, 1, none)
theorem ml_X9_init : ML mX9_init 0 := ⟨TT_of (i := 330) (by decide +kernel) rfl, TT_of (i := 100) (by decide +kernel) rfl, ⟨by decide +kernel, by decide +kernel⟩, by decide +kernel⟩
theorem ic_X9_init : Cond.instanceMethod yX9_init ∈ TT := TT_of (i := 329) (by decide +kernel) rfl
abbrev mX4_init : MI := (yX4_init, cX4_init, 3, none)
theorem ml_X4_init : ML mX4_init 2 := ⟨TT_of (i := 407) (by decide +kernel) rfl, TT_of (i := 101) (by decide +kernel) rfl, ⟨by decide +kernel, by decide +kernel⟩, by decide +kernel⟩
theorem ic_X4_init : Cond.instanceMethod yX4_init ∈ TT := TT_of (i := 406) (by decide +kernel) rfl
abbrev mX3_init : MI := (yX3_init, cX3_init, 3, none)
theorem ml_X3_init : ML mX3_init 2 := ⟨TT_of (i := 429) (by decide +kernel) rfl, TT_of (i := 102) (by decide +kernel) rfl, ⟨by decide +kernel, by decide +kernel⟩, by decide +kernel⟩
theorem ic_X3_init : Cond.instanceMethod yX3_init ∈ TT := TT_of (i := 428) (by decide +kernel) rfl
abbrev mX5_init : MI := (yX5_init, cX5_init, 3, none)
theorem ml_X5_init : ML mX5_init 2 := ⟨TT_of (i := 469) (by decide +kernel) rfl, TT_of (i := 103) (by decide +kernel) rfl, ⟨by decide +kernel, by decide +kernel⟩, by decide +kernel⟩
theorem ic_X5_init : Cond.instanceMethod yX5_init ∈ TT := TT_of (i := 468) (by decide +kernel) rfl
abbrev mX11_feed : MI := (yX11_feed, cX11_feed, 6, some .int)
theorem ml_X11_feed : ML mX11_feed 5 := ⟨TT_of (i := 528) (by decide +kernel) rfl, TT_of (i := 92) (by decide +kernel) rfl, ⟨by decide +kernel, by decide +kernel⟩, by decide +kernel⟩
theorem iv_X11_feed : Cond.instanceMethod mX11_feed.1 ∈ TT ∧ Cond.selects mX11_feed.1.cls mX11_feed.1 mX11_feed.1 ∈ TT := ⟨TT_of (i := 526) (by decide +kernel) rfl, TT_of (i := 527) (by decide +kernel) rfl⟩
abbrev mX7_add : MI := (yX7_add, cX7_add, 3, none)
theorem ml_X7_add : ML mX7_add 1 := ⟨TT_of (i := 532) (by decide +kernel) rfl, TT_of (i := 93) (by decide +kernel) rfl, ⟨by decide +kernel, by decide +kernel⟩, by decide +kernel⟩
theorem iv_X7_add : Cond.instanceMethod mX7_add.1 ∈ TT ∧ Cond.selects mX7_add.1.cls mX7_add.1 mX7_add.1 ∈ TT := ⟨TT_of (i := 530) (by decide +kernel) rfl, TT_of (i := 531) (by decide +kernel) rfl⟩
abbrev mX6_put : MI := (yX6_put, cX6_put, 3, none)
theorem ml_X6_put : ML mX6_put 3 := ⟨TT_of (i := 535) (by decide +kernel) rfl, TT_of (i := 105) (by decide +kernel) rfl, ⟨by decide +kernel, by decide +kernel⟩, by decide +kernel⟩
theorem st_X6_put : Cond.static yX6_put ∈ TT := TT_of (i := 534) (by decide +kernel) rfl
abbrev mX11_end : MI := (yX11_end, cX11_end, 2, some .boolean)
theorem ml_X11_end : ML mX11_end 1 := ⟨TT_of (i := 539) (by decide +kernel) rfl, TT_of (i := 92) (by decide +kernel) rfl, ⟨by decide +kernel, by decide +kernel⟩, by decide +kernel⟩
theorem iv_X11_end : Cond.instanceMethod mX11_end.1 ∈ TT ∧ Cond.selects mX11_end.1.cls mX11_end.1 mX11_end.1 ∈ TT := ⟨TT_of (i := 537) (by decide +kernel) rfl, TT_of (i := 538) (by decide +kernel) rfl⟩
abbrev mX11_within : MI := (yX11_within, cX11_within, 2, some .boolean)
theorem ml_X11_within : ML mX11_within 2 := ⟨TT_of (i := 542) (by decide +kernel) rfl, TT_of (i := 92) (by decide +kernel) rfl, ⟨by decide +kernel, by decide +kernel⟩, by decide +kernel⟩
theorem st_X11_within : Cond.static yX11_within ∈ TT := TT_of (i := 541) (by decide +kernel) rfl
abbrev mX11_fault : MI := (yX11_fault, cX11_fault, 1, some .int)
theorem ml_X11_fault : ML mX11_fault 0 := ⟨TT_of (i := 546) (by decide +kernel) rfl, TT_of (i := 92) (by decide +kernel) rfl, ⟨by decide +kernel, by decide +kernel⟩, by decide +kernel⟩
theorem iv_X11_fault : Cond.instanceMethod mX11_fault.1 ∈ TT ∧ Cond.selects mX11_fault.1.cls mX11_fault.1 mX11_fault.1 ∈ TT := ⟨TT_of (i := 544) (by decide +kernel) rfl, TT_of (i := 545) (by decide +kernel) rfl⟩
abbrev mX11_goal : MI := (yX11_goal, cX11_goal, 1, some .int)
theorem ml_X11_goal : ML mX11_goal 0 := ⟨TT_of (i := 550) (by decide +kernel) rfl, TT_of (i := 92) (by decide +kernel) rfl, ⟨by decide +kernel, by decide +kernel⟩, by decide +kernel⟩
theorem iv_X11_goal : Cond.instanceMethod mX11_goal.1 ∈ TT ∧ Cond.selects mX11_goal.1.cls mX11_goal.1 mX11_goal.1 ∈ TT := ⟨TT_of (i := 548) (by decide +kernel) rfl, TT_of (i := 549) (by decide +kernel) rfl⟩
abbrev mX0_goalWorthAt : MI := (yX0_goalWorthAt, cX0_goalWorthAt, 2, some .int)
theorem ml_X0_goalWorthAt : ML mX0_goalWorthAt 1 := ⟨TT_of (i := 554) (by decide +kernel) rfl, TT_of (i := 99) (by decide +kernel) rfl, ⟨by decide +kernel, by decide +kernel⟩, by decide +kernel⟩
theorem iv_X0_goalWorthAt : Cond.instanceMethod mX0_goalWorthAt.1 ∈ TT ∧ Cond.selects mX0_goalWorthAt.1.cls mX0_goalWorthAt.1 mX0_goalWorthAt.1 ∈ TT := ⟨TT_of (i := 552) (by decide +kernel) rfl, TT_of (i := 553) (by decide +kernel) rfl⟩
abbrev mJ9_max_7cf53 : MI := (yJ9_max_7cf53, cJ9_max_7cf53, 2, some .int)
theorem ml_J9_max_7cf53 : ML mJ9_max_7cf53 2 := ⟨TT_of (i := 558) (by decide +kernel) rfl, TT_of (i := 115) (by decide +kernel) rfl, ⟨by decide +kernel, by decide +kernel⟩, by decide +kernel⟩
theorem st_J9_max_7cf53 : Cond.static yJ9_max_7cf53 ∈ TT := TT_of (i := 557) (by decide +kernel) rfl
abbrev mX2_total : MI := (yX2_total, cX2_total, 6, some .int)
theorem ml_X2_total : ML mX2_total 2 := ⟨TT_of (i := 562) (by decide +kernel) rfl, TT_of (i := 98) (by decide +kernel) rfl, ⟨by decide +kernel, by decide +kernel⟩, by decide +kernel⟩
theorem iv_X2_total : Cond.instanceMethod mX2_total.1 ∈ TT ∧ Cond.selects mX2_total.1.cls mX2_total.1 mX2_total.1 ∈ TT := ⟨TT_of (i := 560) (by decide +kernel) rfl, TT_of (i := 561) (by decide +kernel) rfl⟩
abbrev mX2_holds : MI := (yX2_holds, cX2_holds, 9, some .boolean)
theorem ml_X2_holds : ML mX2_holds 3 := ⟨TT_of (i := 566) (by decide +kernel) rfl, TT_of (i := 98) (by decide +kernel) rfl, ⟨by decide +kernel, by decide +kernel⟩, by decide +kernel⟩
theorem iv_X2_holds : Cond.instanceMethod mX2_holds.1 ∈ TT ∧ Cond.selects mX2_holds.1.cls mX2_holds.1 mX2_holds.1 ∈ TT := ⟨TT_of (i := 565) (by decide +kernel) rfl, TT_of (i := 0) (by decide +kernel) rfl⟩
abbrev mX6_at : MI := (yX6_at, cX6_at, 2, some .int)
theorem ml_X6_at : ML mX6_at 2 := ⟨TT_of (i := 569) (by decide +kernel) rfl, TT_of (i := 105) (by decide +kernel) rfl, ⟨by decide +kernel, by decide +kernel⟩, by decide +kernel⟩
theorem st_X6_at : Cond.static yX6_at ∈ TT := TT_of (i := 568) (by decide +kernel) rfl
abbrev mX2_joined : MI := (yX2_joined, cX2_joined, 3, some .int)
theorem ml_X2_joined : ML mX2_joined 3 := ⟨TT_of (i := 573) (by decide +kernel) rfl, TT_of (i := 98) (by decide +kernel) rfl, ⟨by decide +kernel, by decide +kernel⟩, by decide +kernel⟩
theorem st_X2_joined : Cond.static yX2_joined ∈ TT := TT_of (i := 572) (by decide +kernel) rfl
abbrev mJ9_min_7cf53 : MI := (yJ9_min_7cf53, cJ9_min_7cf53, 2, some .int)
theorem ml_J9_min_7cf53 : ML mJ9_min_7cf53 2 := ⟨TT_of (i := 576) (by decide +kernel) rfl, TT_of (i := 115) (by decide +kernel) rfl, ⟨by decide +kernel, by decide +kernel⟩, by decide +kernel⟩
theorem st_J9_min_7cf53 : Cond.static yJ9_min_7cf53 ∈ TT := TT_of (i := 575) (by decide +kernel) rfl
abbrev mX11_image : MI := (yX11_image, cX11_image, 1, none)
theorem ml_X11_image : ML mX11_image 0 := ⟨TT_of (i := 580) (by decide +kernel) rfl, TT_of (i := 92) (by decide +kernel) rfl, ⟨by decide +kernel, by decide +kernel⟩, by decide +kernel⟩
theorem iv_X11_image : Cond.instanceMethod mX11_image.1 ∈ TT ∧ Cond.selects mX11_image.1.cls mX11_image.1 mX11_image.1 ∈ TT := ⟨TT_of (i := 578) (by decide +kernel) rfl, TT_of (i := 579) (by decide +kernel) rfl⟩
abbrev mX1_copy : MI := (yX1_copy, cX1_copy, 3, none)
theorem ml_X1_copy : ML mX1_copy 1 := ⟨TT_of (i := 584) (by decide +kernel) rfl, TT_of (i := 97) (by decide +kernel) rfl, ⟨by decide +kernel, by decide +kernel⟩, by decide +kernel⟩
theorem iv_X1_copy : Cond.instanceMethod mX1_copy.1 ∈ TT ∧ Cond.selects mX1_copy.1.cls mX1_copy.1 mX1_copy.1 ∈ TT := ⟨TT_of (i := 582) (by decide +kernel) rfl, TT_of (i := 583) (by decide +kernel) rfl⟩
abbrev mX6_copy : MI := (yX6_copy, cX6_copy, 3, none)
theorem ml_X6_copy : ML mX6_copy 2 := ⟨TT_of (i := 587) (by decide +kernel) rfl, TT_of (i := 105) (by decide +kernel) rfl, ⟨by decide +kernel, by decide +kernel⟩, by decide +kernel⟩
theorem st_X6_copy : Cond.static yX6_copy ∈ TT := TT_of (i := 586) (by decide +kernel) rfl
abbrev mX11_back : MI := (yX11_back, cX11_back, 1, some .boolean)
theorem ml_X11_back : ML mX11_back 0 := ⟨TT_of (i := 591) (by decide +kernel) rfl, TT_of (i := 92) (by decide +kernel) rfl, ⟨by decide +kernel, by decide +kernel⟩, by decide +kernel⟩
theorem iv_X11_back : Cond.instanceMethod mX11_back.1 ∈ TT ∧ Cond.selects mX11_back.1.cls mX11_back.1 mX11_back.1 ∈ TT := ⟨TT_of (i := 589) (by decide +kernel) rfl, TT_of (i := 590) (by decide +kernel) rfl⟩
abbrev mX11_count : MI := (yX11_count, cX11_count, 2, some .int)
theorem ml_X11_count : ML mX11_count 1 := ⟨TT_of (i := 595) (by decide +kernel) rfl, TT_of (i := 92) (by decide +kernel) rfl, ⟨by decide +kernel, by decide +kernel⟩, by decide +kernel⟩
theorem iv_X11_count : Cond.instanceMethod mX11_count.1 ∈ TT ∧ Cond.selects mX11_count.1.cls mX11_count.1 mX11_count.1 ∈ TT := ⟨TT_of (i := 593) (by decide +kernel) rfl, TT_of (i := 594) (by decide +kernel) rfl⟩
abbrev mX1_livelyStates : MI := (yX1_livelyStates, cX1_livelyStates, 3, some .int)
theorem ml_X1_livelyStates : ML mX1_livelyStates 0 := ⟨TT_of (i := 599) (by decide +kernel) rfl, TT_of (i := 97) (by decide +kernel) rfl, ⟨by decide +kernel, by decide +kernel⟩, by decide +kernel⟩
theorem iv_X1_livelyStates : Cond.instanceMethod mX1_livelyStates.1 ∈ TT ∧ Cond.selects mX1_livelyStates.1.cls mX1_livelyStates.1 mX1_livelyStates.1 ∈ TT := ⟨TT_of (i := 597) (by decide +kernel) rfl, TT_of (i := 598) (by decide +kernel) rfl⟩
abbrev mX1_chancesTogether : MI := (yX1_chancesTogether, cX1_chancesTogether, 4, some .int)
theorem ml_X1_chancesTogether : ML mX1_chancesTogether 1 := ⟨TT_of (i := 603) (by decide +kernel) rfl, TT_of (i := 97) (by decide +kernel) rfl, ⟨by decide +kernel, by decide +kernel⟩, by decide +kernel⟩
theorem iv_X1_chancesTogether : Cond.instanceMethod mX1_chancesTogether.1 ∈ TT ∧ Cond.selects mX1_chancesTogether.1.cls mX1_chancesTogether.1 mX1_chancesTogether.1 ∈ TT := ⟨TT_of (i := 601) (by decide +kernel) rfl, TT_of (i := 602) (by decide +kernel) rfl⟩
abbrev mX1_chance : MI := (yX1_chance, cX1_chance, 3, some .int)
theorem ml_X1_chance : ML mX1_chance 2 := ⟨TT_of (i := 607) (by decide +kernel) rfl, TT_of (i := 97) (by decide +kernel) rfl, ⟨by decide +kernel, by decide +kernel⟩, by decide +kernel⟩
theorem iv_X1_chance : Cond.instanceMethod mX1_chance.1 ∈ TT ∧ Cond.selects mX1_chance.1.cls mX1_chance.1 mX1_chance.1 ∈ TT := ⟨TT_of (i := 605) (by decide +kernel) rfl, TT_of (i := 606) (by decide +kernel) rfl⟩
abbrev mX1_ratesTogether : MI := (yX1_ratesTogether, cX1_ratesTogether, 3, some .int)
theorem ml_X1_ratesTogether : ML mX1_ratesTogether 0 := ⟨TT_of (i := 612) (by decide +kernel) rfl, TT_of (i := 97) (by decide +kernel) rfl, ⟨by decide +kernel, by decide +kernel⟩, by decide +kernel⟩
theorem iv_X1_ratesTogether : Cond.instanceMethod mX1_ratesTogether.1 ∈ TT ∧ Cond.selects mX1_ratesTogether.1.cls mX1_ratesTogether.1 mX1_ratesTogether.1 ∈ TT := ⟨TT_of (i := 610) (by decide +kernel) rfl, TT_of (i := 611) (by decide +kernel) rfl⟩
abbrev mX1_ratesOf : MI := (yX1_ratesOf, cX1_ratesOf, 4, some .int)
theorem ml_X1_ratesOf : ML mX1_ratesOf 1 := ⟨TT_of (i := 616) (by decide +kernel) rfl, TT_of (i := 97) (by decide +kernel) rfl, ⟨by decide +kernel, by decide +kernel⟩, by decide +kernel⟩
theorem iv_X1_ratesOf : Cond.instanceMethod mX1_ratesOf.1 ∈ TT ∧ Cond.selects mX1_ratesOf.1.cls mX1_ratesOf.1 mX1_ratesOf.1 ∈ TT := ⟨TT_of (i := 615) (by decide +kernel) rfl, TT_of (i := 1) (by decide +kernel) rfl⟩
abbrev mX1_rateOf : MI := (yX1_rateOf, cX1_rateOf, 3, some .int)
theorem ml_X1_rateOf : ML mX1_rateOf 2 := ⟨TT_of (i := 620) (by decide +kernel) rfl, TT_of (i := 97) (by decide +kernel) rfl, ⟨by decide +kernel, by decide +kernel⟩, by decide +kernel⟩
theorem iv_X1_rateOf : Cond.instanceMethod mX1_rateOf.1 ∈ TT ∧ Cond.selects mX1_rateOf.1.cls mX1_rateOf.1 mX1_rateOf.1 ∈ TT := ⟨TT_of (i := 618) (by decide +kernel) rfl, TT_of (i := 619) (by decide +kernel) rfl⟩
abbrev mX11_game : MI := (yX11_game, cX11_game, 2, some .int)
theorem ml_X11_game : ML mX11_game 0 := ⟨TT_of (i := 629) (by decide +kernel) rfl, TT_of (i := 92) (by decide +kernel) rfl, ⟨by decide +kernel, by decide +kernel⟩, by decide +kernel⟩
theorem iv_X11_game : Cond.instanceMethod mX11_game.1 ∈ TT ∧ Cond.selects mX11_game.1.cls mX11_game.1 mX11_game.1 ∈ TT := ⟨TT_of (i := 627) (by decide +kernel) rfl, TT_of (i := 628) (by decide +kernel) rfl⟩
abbrev mX8_readGame : MI := (yX8_readGame, cX8_readGame, 3, some .boolean)
theorem ml_X8_readGame : ML mX8_readGame 1 := ⟨TT_of (i := 633) (by decide +kernel) rfl, TT_of (i := 96) (by decide +kernel) rfl, ⟨by decide +kernel, by decide +kernel⟩, by decide +kernel⟩
theorem iv_X8_readGame : Cond.instanceMethod mX8_readGame.1 ∈ TT ∧ Cond.selects mX8_readGame.1.cls mX8_readGame.1 mX8_readGame.1 ∈ TT := ⟨TT_of (i := 631) (by decide +kernel) rfl, TT_of (i := 632) (by decide +kernel) rfl⟩
abbrev mX8_read : MI := (yX8_read, cX8_read, 4, some .boolean)
theorem ml_X8_read : ML mX8_read 1 := ⟨TT_of (i := 638) (by decide +kernel) rfl, TT_of (i := 96) (by decide +kernel) rfl, ⟨by decide +kernel, by decide +kernel⟩, by decide +kernel⟩
theorem iv_X8_read : Cond.instanceMethod mX8_read.1 ∈ TT ∧ Cond.selects mX8_read.1.cls mX8_read.1 mX8_read.1 ∈ TT := ⟨TT_of (i := 636) (by decide +kernel) rfl, TT_of (i := 637) (by decide +kernel) rfl⟩
abbrev mX7_findThings : MI := (yX7_findThings, cX7_findThings, 4, none)
theorem ml_X7_findThings : ML mX7_findThings 0 := ⟨TT_of (i := 642) (by decide +kernel) rfl, TT_of (i := 93) (by decide +kernel) rfl, ⟨by decide +kernel, by decide +kernel⟩, by decide +kernel⟩
theorem iv_X7_findThings : Cond.instanceMethod mX7_findThings.1 ∈ TT ∧ Cond.selects mX7_findThings.1.cls mX7_findThings.1 mX7_findThings.1 ∈ TT := ⟨TT_of (i := 640) (by decide +kernel) rfl, TT_of (i := 641) (by decide +kernel) rfl⟩
abbrev mX7_endOfThing : MI := (yX7_endOfThing, cX7_endOfThing, 3, some .int)
theorem ml_X7_endOfThing : ML mX7_endOfThing 1 := ⟨TT_of (i := 647) (by decide +kernel) rfl, TT_of (i := 93) (by decide +kernel) rfl, ⟨by decide +kernel, by decide +kernel⟩, by decide +kernel⟩
theorem iv_X7_endOfThing : Cond.instanceMethod mX7_endOfThing.1 ∈ TT ∧ Cond.selects mX7_endOfThing.1.cls mX7_endOfThing.1 mX7_endOfThing.1 ∈ TT := ⟨TT_of (i := 646) (by decide +kernel) rfl, TT_of (i := 2) (by decide +kernel) rfl⟩
abbrev mX7_isLetter : MI := (yX7_isLetter, cX7_isLetter, 1, some .boolean)
theorem ml_X7_isLetter : ML mX7_isLetter 1 := ⟨TT_of (i := 650) (by decide +kernel) rfl, TT_of (i := 93) (by decide +kernel) rfl, ⟨by decide +kernel, by decide +kernel⟩, by decide +kernel⟩
theorem st_X7_isLetter : Cond.static yX7_isLetter ∈ TT := TT_of (i := 649) (by decide +kernel) rfl
abbrev mX7_isDigit : MI := (yX7_isDigit, cX7_isDigit, 1, some .boolean)
theorem ml_X7_isDigit : ML mX7_isDigit 1 := ⟨TT_of (i := 653) (by decide +kernel) rfl, TT_of (i := 93) (by decide +kernel) rfl, ⟨by decide +kernel, by decide +kernel⟩, by decide +kernel⟩
theorem st_X7_isDigit : Cond.static yX7_isDigit ∈ TT := TT_of (i := 652) (by decide +kernel) rfl
abbrev mX7_addThing : MI := (yX7_addThing, cX7_addThing, 6, none)
theorem ml_X7_addThing : ML mX7_addThing 2 := ⟨TT_of (i := 657) (by decide +kernel) rfl, TT_of (i := 93) (by decide +kernel) rfl, ⟨by decide +kernel, by decide +kernel⟩, by decide +kernel⟩
theorem iv_X7_addThing : Cond.instanceMethod mX7_addThing.1 ∈ TT ∧ Cond.selects mX7_addThing.1.cls mX7_addThing.1 mX7_addThing.1 ∈ TT := ⟨TT_of (i := 656) (by decide +kernel) rfl, TT_of (i := 3) (by decide +kernel) rfl⟩
abbrev mX7_numberOf : MI := (yX7_numberOf, cX7_numberOf, 5, some .int)
theorem ml_X7_numberOf : ML mX7_numberOf 2 := ⟨TT_of (i := 661) (by decide +kernel) rfl, TT_of (i := 93) (by decide +kernel) rfl, ⟨by decide +kernel, by decide +kernel⟩, by decide +kernel⟩
theorem iv_X7_numberOf : Cond.instanceMethod mX7_numberOf.1 ∈ TT ∧ Cond.selects mX7_numberOf.1.cls mX7_numberOf.1 mX7_numberOf.1 ∈ TT := ⟨TT_of (i := 660) (by decide +kernel) rfl, TT_of (i := 4) (by decide +kernel) rfl⟩
abbrev mX10_of : MI := (yX10_of, cX10_of, 4, some (.object "WhistleBook$Word"))
theorem ml_X10_of : ML mX10_of 3 := ⟨TT_of (i := 664) (by decide +kernel) rfl, TT_of (i := 95) (by decide +kernel) rfl, ⟨by decide +kernel, by decide +kernel⟩, by decide +kernel⟩
theorem st_X10_of : Cond.static yX10_of ∈ TT := TT_of (i := 663) (by decide +kernel) rfl
abbrev mX10_stands : MI := (yX10_stands, cX10_stands, 5, some .boolean)
theorem ml_X10_stands : ML mX10_stands 3 := ⟨TT_of (i := 671) (by decide +kernel) rfl, TT_of (i := 95) (by decide +kernel) rfl, ⟨by decide +kernel, by decide +kernel⟩, by decide +kernel⟩
theorem iv_X10_stands : Cond.instanceMethod mX10_stands.1 ∈ TT ∧ Cond.selects mX10_stands.1.cls mX10_stands.1 mX10_stands.1 ∈ TT := ⟨TT_of (i := 669) (by decide +kernel) rfl, TT_of (i := 5) (by decide +kernel) rfl⟩
abbrev mJ0_length_8abf5 : MI := (yJ0_length_8abf5, cJ0_length_8abf5, 1, some .int)
theorem ml_J0_length_8abf5 : ML mJ0_length_8abf5 0 := ⟨TT_of (i := 675) (by decide +kernel) rfl, TT_of (i := 106) (by decide +kernel) rfl, ⟨by decide +kernel, by decide +kernel⟩, by decide +kernel⟩
theorem iv_J0_length_8abf5 : Cond.instanceMethod mJ0_length_8abf5.1 ∈ TT ∧ Cond.selects mJ0_length_8abf5.1.cls mJ0_length_8abf5.1 mJ0_length_8abf5.1 ∈ TT := ⟨TT_of (i := 673) (by decide +kernel) rfl, TT_of (i := 674) (by decide +kernel) rfl⟩
abbrev mJ0_coder_7d493 : MI := (yJ0_coder_7d493, cJ0_coder_7d493, 1, some .byte)
theorem ml_J0_coder_7d493 : ML mJ0_coder_7d493 0 := ⟨TT_of (i := 679) (by decide +kernel) rfl, TT_of (i := 106) (by decide +kernel) rfl, ⟨by decide +kernel, by decide +kernel⟩, by decide +kernel⟩
theorem iv_J0_coder_7d493 : Cond.instanceMethod mJ0_coder_7d493.1 ∈ TT ∧ Cond.selects mJ0_coder_7d493.1.cls mJ0_coder_7d493.1 mJ0_coder_7d493.1 ∈ TT := ⟨TT_of (i := 677) (by decide +kernel) rfl, TT_of (i := 678) (by decide +kernel) rfl⟩
abbrev mJ0_charAt_5068e : MI := (yJ0_charAt_5068e, cJ0_charAt_5068e, 2, some .char)
theorem ml_J0_charAt_5068e : ML mJ0_charAt_5068e 1 := ⟨TT_of (i := 686) (by decide +kernel) rfl, TT_of (i := 106) (by decide +kernel) rfl, ⟨by decide +kernel, by decide +kernel⟩, by decide +kernel⟩
theorem iv_J0_charAt_5068e : Cond.instanceMethod mJ0_charAt_5068e.1 ∈ TT ∧ Cond.selects mJ0_charAt_5068e.1.cls mJ0_charAt_5068e.1 mJ0_charAt_5068e.1 ∈ TT := ⟨TT_of (i := 684) (by decide +kernel) rfl, TT_of (i := 685) (by decide +kernel) rfl⟩
abbrev mJ0_isLatin1_aae02 : MI := (yJ0_isLatin1_aae02, cJ0_isLatin1_aae02, 1, some .boolean)
theorem ml_J0_isLatin1_aae02 : ML mJ0_isLatin1_aae02 0 := ⟨TT_of (i := 690) (by decide +kernel) rfl, TT_of (i := 106) (by decide +kernel) rfl, ⟨by decide +kernel, by decide +kernel⟩, by decide +kernel⟩
theorem iv_J0_isLatin1_aae02 : Cond.instanceMethod mJ0_isLatin1_aae02.1 ∈ TT ∧ Cond.selects mJ0_isLatin1_aae02.1.cls mJ0_isLatin1_aae02.1 mJ0_isLatin1_aae02.1 ∈ TT := ⟨TT_of (i := 688) (by decide +kernel) rfl, TT_of (i := 689) (by decide +kernel) rfl⟩
abbrev mJ1_charAt_3b067 : MI := (yJ1_charAt_3b067, cJ1_charAt_3b067, 2, some .char)
theorem ml_J1_charAt_3b067 : ML mJ1_charAt_3b067 2 := ⟨TT_of (i := 693) (by decide +kernel) rfl, TT_of (i := 107) (by decide +kernel) rfl, ⟨by decide +kernel, by decide +kernel⟩, by decide +kernel⟩
theorem st_J1_charAt_3b067 : Cond.static yJ1_charAt_3b067 ∈ TT := TT_of (i := 692) (by decide +kernel) rfl
abbrev mJ0_checkIndex_df160 : MI := (yJ0_checkIndex_df160, cJ0_checkIndex_df160, 2, none)
theorem ml_J0_checkIndex_df160 : ML mJ0_checkIndex_df160 2 := ⟨TT_of (i := 696) (by decide +kernel) rfl, TT_of (i := 106) (by decide +kernel) rfl, ⟨by decide +kernel, by decide +kernel⟩, by decide +kernel⟩
theorem st_J0_checkIndex_df160 : Cond.static yJ0_checkIndex_df160 ∈ TT := TT_of (i := 695) (by decide +kernel) rfl
abbrev mJ3_checkIndex_8e157 : MI := (yJ3_checkIndex_8e157, cJ3_checkIndex_8e157, 3, some .int)
theorem ml_J3_checkIndex_8e157 : ML mJ3_checkIndex_8e157 3 := ⟨TT_of (i := 701) (by decide +kernel) rfl, TT_of (i := 108) (by decide +kernel) rfl, ⟨by decide +kernel, by decide +kernel⟩, by decide +kernel⟩
theorem st_J3_checkIndex_8e157 : Cond.static yJ3_checkIndex_8e157 ∈ TT := TT_of (i := 700) (by decide +kernel) rfl
abbrev mJ2_charAt_3b067 : MI := (yJ2_charAt_3b067, cJ2_charAt_3b067, 2, some .char)
theorem ml_J2_charAt_3b067 : ML mJ2_charAt_3b067 2 := ⟨TT_of (i := 704) (by decide +kernel) rfl, TT_of (i := 109) (by decide +kernel) rfl, ⟨by decide +kernel, by decide +kernel⟩, by decide +kernel⟩
theorem st_J2_charAt_3b067 : Cond.static yJ2_charAt_3b067 ∈ TT := TT_of (i := 703) (by decide +kernel) rfl
abbrev mJ2_checkIndex_2214a : MI := (yJ2_checkIndex_2214a, cJ2_checkIndex_2214a, 2, none)
theorem ml_J2_checkIndex_2214a : ML mJ2_checkIndex_2214a 2 := ⟨TT_of (i := 707) (by decide +kernel) rfl, TT_of (i := 109) (by decide +kernel) rfl, ⟨by decide +kernel, by decide +kernel⟩, by decide +kernel⟩
theorem st_J2_checkIndex_2214a : Cond.static yJ2_checkIndex_2214a ∈ TT := TT_of (i := 706) (by decide +kernel) rfl
abbrev mJ2_length_9d52b : MI := (yJ2_length_9d52b, cJ2_length_9d52b, 1, some .int)
theorem ml_J2_length_9d52b : ML mJ2_length_9d52b 1 := ⟨TT_of (i := 710) (by decide +kernel) rfl, TT_of (i := 109) (by decide +kernel) rfl, ⟨by decide +kernel, by decide +kernel⟩, by decide +kernel⟩
theorem st_J2_length_9d52b : Cond.static yJ2_length_9d52b ∈ TT := TT_of (i := 709) (by decide +kernel) rfl
abbrev mJ2_getChar_3b067 : MI := (yJ2_getChar_3b067, cJ2_getChar_3b067, 2, some .char)
theorem ml_J2_getChar_3b067 : ML mJ2_getChar_3b067 2 := ⟨TT_of (i := 714) (by decide +kernel) rfl, TT_of (i := 109) (by decide +kernel) rfl, ⟨by decide +kernel, by decide +kernel⟩, by decide +kernel⟩
theorem st_J2_getChar_3b067 : Cond.static yJ2_getChar_3b067 ∈ TT := TT_of (i := 713) (by decide +kernel) rfl
abbrev mX7_next : MI := (yX7_next, cX7_next, 1, none)
theorem ml_X7_next : ML mX7_next 0 := ⟨TT_of (i := 725) (by decide +kernel) rfl, TT_of (i := 93) (by decide +kernel) rfl, ⟨by decide +kernel, by decide +kernel⟩, by decide +kernel⟩
theorem iv_X7_next : Cond.instanceMethod mX7_next.1 ∈ TT ∧ Cond.selects mX7_next.1.cls mX7_next.1 mX7_next.1 ∈ TT := ⟨TT_of (i := 723) (by decide +kernel) rfl, TT_of (i := 724) (by decide +kernel) rfl⟩
abbrev mX7_atEnd : MI := (yX7_atEnd, cX7_atEnd, 1, some .boolean)
theorem ml_X7_atEnd : ML mX7_atEnd 0 := ⟨TT_of (i := 729) (by decide +kernel) rfl, TT_of (i := 93) (by decide +kernel) rfl, ⟨by decide +kernel, by decide +kernel⟩, by decide +kernel⟩
theorem iv_X7_atEnd : Cond.instanceMethod mX7_atEnd.1 ∈ TT ∧ Cond.selects mX7_atEnd.1.cls mX7_atEnd.1 mX7_atEnd.1 ∈ TT := ⟨TT_of (i := 727) (by decide +kernel) rfl, TT_of (i := 728) (by decide +kernel) rfl⟩
abbrev mX8_readGameLine : MI := (yX8_readGameLine, cX8_readGameLine, 2, some .boolean)
theorem ml_X8_readGameLine : ML mX8_readGameLine 0 := ⟨TT_of (i := 733) (by decide +kernel) rfl, TT_of (i := 96) (by decide +kernel) rfl, ⟨by decide +kernel, by decide +kernel⟩, by decide +kernel⟩
theorem iv_X8_readGameLine : Cond.instanceMethod mX8_readGameLine.1 ∈ TT ∧ Cond.selects mX8_readGameLine.1.cls mX8_readGameLine.1 mX8_readGameLine.1 ∈ TT := ⟨TT_of (i := 732) (by decide +kernel) rfl, TT_of (i := 6) (by decide +kernel) rfl⟩
abbrev mX8_wrong : MI := (yX8_wrong, cX8_wrong, 1, some .boolean)
theorem ml_X8_wrong : ML mX8_wrong 0 := ⟨TT_of (i := 743) (by decide +kernel) rfl, TT_of (i := 96) (by decide +kernel) rfl, ⟨by decide +kernel, by decide +kernel⟩, by decide +kernel⟩
theorem iv_X8_wrong : Cond.instanceMethod mX8_wrong.1 ∈ TT ∧ Cond.selects mX8_wrong.1.cls mX8_wrong.1 mX8_wrong.1 ∈ TT := ⟨TT_of (i := 742) (by decide +kernel) rfl, TT_of (i := 7) (by decide +kernel) rfl⟩
abbrev mX8_readChance : MI := (yX8_readChance, cX8_readChance, 4, some .boolean)
theorem ml_X8_readChance : ML mX8_readChance 0 := ⟨TT_of (i := 748) (by decide +kernel) rfl, TT_of (i := 96) (by decide +kernel) rfl, ⟨by decide +kernel, by decide +kernel⟩, by decide +kernel⟩
theorem iv_X8_readChance : Cond.instanceMethod mX8_readChance.1 ∈ TT ∧ Cond.selects mX8_readChance.1.cls mX8_readChance.1 mX8_readChance.1 ∈ TT := ⟨TT_of (i := 747) (by decide +kernel) rfl, TT_of (i := 8) (by decide +kernel) rfl⟩
abbrev mX8_takeState : MI := (yX8_takeState, cX8_takeState, 3, some .int)
theorem ml_X8_takeState : ML mX8_takeState 0 := ⟨TT_of (i := 752) (by decide +kernel) rfl, TT_of (i := 96) (by decide +kernel) rfl, ⟨by decide +kernel, by decide +kernel⟩, by decide +kernel⟩
theorem iv_X8_takeState : Cond.instanceMethod mX8_takeState.1 ∈ TT ∧ Cond.selects mX8_takeState.1.cls mX8_takeState.1 mX8_takeState.1 ∈ TT := ⟨TT_of (i := 751) (by decide +kernel) rfl, TT_of (i := 9) (by decide +kernel) rfl⟩
abbrev mX8_takeNumber : MI := (yX8_takeNumber, cX8_takeNumber, 3, some .int)
theorem ml_X8_takeNumber : ML mX8_takeNumber 1 := ⟨TT_of (i := 756) (by decide +kernel) rfl, TT_of (i := 96) (by decide +kernel) rfl, ⟨by decide +kernel, by decide +kernel⟩, by decide +kernel⟩
theorem iv_X8_takeNumber : Cond.instanceMethod mX8_takeNumber.1 ∈ TT ∧ Cond.selects mX8_takeNumber.1.cls mX8_takeNumber.1 mX8_takeNumber.1 ∈ TT := ⟨TT_of (i := 755) (by decide +kernel) rfl, TT_of (i := 10) (by decide +kernel) rfl⟩
abbrev mX8_takeWord : MI := (yX8_takeWord, cX8_takeWord, 2, some .boolean)
theorem ml_X8_takeWord : ML mX8_takeWord 1 := ⟨TT_of (i := 766) (by decide +kernel) rfl, TT_of (i := 96) (by decide +kernel) rfl, ⟨by decide +kernel, by decide +kernel⟩, by decide +kernel⟩
theorem iv_X8_takeWord : Cond.instanceMethod mX8_takeWord.1 ∈ TT ∧ Cond.selects mX8_takeWord.1.cls mX8_takeWord.1 mX8_takeWord.1 ∈ TT := ⟨TT_of (i := 765) (by decide +kernel) rfl, TT_of (i := 11) (by decide +kernel) rfl⟩
abbrev mX1_setChance : MI := (yX1_setChance, cX1_setChance, 4, none)
theorem ml_X1_setChance : ML mX1_setChance 3 := ⟨TT_of (i := 770) (by decide +kernel) rfl, TT_of (i := 97) (by decide +kernel) rfl, ⟨by decide +kernel, by decide +kernel⟩, by decide +kernel⟩
theorem iv_X1_setChance : Cond.instanceMethod mX1_setChance.1 ∈ TT ∧ Cond.selects mX1_setChance.1.cls mX1_setChance.1 mX1_setChance.1 ∈ TT := ⟨TT_of (i := 768) (by decide +kernel) rfl, TT_of (i := 769) (by decide +kernel) rfl⟩
abbrev mX8_readKick : MI := (yX8_readKick, cX8_readKick, 3, some .boolean)
theorem ml_X8_readKick : ML mX8_readKick 0 := ⟨TT_of (i := 775) (by decide +kernel) rfl, TT_of (i := 96) (by decide +kernel) rfl, ⟨by decide +kernel, by decide +kernel⟩, by decide +kernel⟩
theorem iv_X8_readKick : Cond.instanceMethod mX8_readKick.1 ∈ TT ∧ Cond.selects mX8_readKick.1.cls mX8_readKick.1 mX8_readKick.1 ∈ TT := ⟨TT_of (i := 774) (by decide +kernel) rfl, TT_of (i := 12) (by decide +kernel) rfl⟩
abbrev mX8_readGrace : MI := (yX8_readGrace, cX8_readGrace, 2, some .boolean)
theorem ml_X8_readGrace : ML mX8_readGrace 0 := ⟨TT_of (i := 780) (by decide +kernel) rfl, TT_of (i := 96) (by decide +kernel) rfl, ⟨by decide +kernel, by decide +kernel⟩, by decide +kernel⟩
theorem iv_X8_readGrace : Cond.instanceMethod mX8_readGrace.1 ∈ TT ∧ Cond.selects mX8_readGrace.1.cls mX8_readGrace.1 mX8_readGrace.1 ∈ TT := ⟨TT_of (i := 779) (by decide +kernel) rfl, TT_of (i := 13) (by decide +kernel) rfl⟩
abbrev mX8_readGoalLine : MI := (yX8_readGoalLine, cX8_readGoalLine, 5, some .boolean)
theorem ml_X8_readGoalLine : ML mX8_readGoalLine 0 := ⟨TT_of (i := 784) (by decide +kernel) rfl, TT_of (i := 96) (by decide +kernel) rfl, ⟨by decide +kernel, by decide +kernel⟩, by decide +kernel⟩
theorem iv_X8_readGoalLine : Cond.instanceMethod mX8_readGoalLine.1 ∈ TT ∧ Cond.selects mX8_readGoalLine.1.cls mX8_readGoalLine.1 mX8_readGoalLine.1 ∈ TT := ⟨TT_of (i := 783) (by decide +kernel) rfl, TT_of (i := 14) (by decide +kernel) rfl⟩
abbrev mX8_factHere : MI := (yX8_factHere, cX8_factHere, 2, some .int)
theorem ml_X8_factHere : ML mX8_factHere 0 := ⟨TT_of (i := 792) (by decide +kernel) rfl, TT_of (i := 96) (by decide +kernel) rfl, ⟨by decide +kernel, by decide +kernel⟩, by decide +kernel⟩
theorem iv_X8_factHere : Cond.instanceMethod mX8_factHere.1 ∈ TT ∧ Cond.selects mX8_factHere.1.cls mX8_factHere.1 mX8_factHere.1 ∈ TT := ⟨TT_of (i := 791) (by decide +kernel) rfl, TT_of (i := 15) (by decide +kernel) rfl⟩
abbrev mX8_readCondition : MI := (yX8_readCondition, cX8_readCondition, 3, some .boolean)
theorem ml_X8_readCondition : ML mX8_readCondition 1 := ⟨TT_of (i := 798) (by decide +kernel) rfl, TT_of (i := 96) (by decide +kernel) rfl, ⟨by decide +kernel, by decide +kernel⟩, by decide +kernel⟩
theorem iv_X8_readCondition : Cond.instanceMethod mX8_readCondition.1 ∈ TT ∧ Cond.selects mX8_readCondition.1.cls mX8_readCondition.1 mX8_readCondition.1 ∈ TT := ⟨TT_of (i := 797) (by decide +kernel) rfl, TT_of (i := 16) (by decide +kernel) rfl⟩
abbrev mX8_readAll : MI := (yX8_readAll, cX8_readAll, 3, some .boolean)
theorem ml_X8_readAll : ML mX8_readAll 1 := ⟨TT_of (i := 802) (by decide +kernel) rfl, TT_of (i := 96) (by decide +kernel) rfl, ⟨by decide +kernel, by decide +kernel⟩, by decide +kernel⟩
theorem iv_X8_readAll : Cond.instanceMethod mX8_readAll.1 ∈ TT ∧ Cond.selects mX8_readAll.1.cls mX8_readAll.1 mX8_readAll.1 ∈ TT := ⟨TT_of (i := 801) (by decide +kernel) rfl, TT_of (i := 17) (by decide +kernel) rfl⟩
abbrev mX8_readAtom : MI := (yX8_readAtom, cX8_readAtom, 3, some .boolean)
theorem ml_X8_readAtom : ML mX8_readAtom 1 := ⟨TT_of (i := 806) (by decide +kernel) rfl, TT_of (i := 96) (by decide +kernel) rfl, ⟨by decide +kernel, by decide +kernel⟩, by decide +kernel⟩
theorem iv_X8_readAtom : Cond.instanceMethod mX8_readAtom.1 ∈ TT ∧ Cond.selects mX8_readAtom.1.cls mX8_readAtom.1 mX8_readAtom.1 ∈ TT := ⟨TT_of (i := 805) (by decide +kernel) rfl, TT_of (i := 18) (by decide +kernel) rfl⟩
abbrev mX8_readDeeper : MI := (yX8_readDeeper, cX8_readDeeper, 3, some .boolean)
theorem ml_X8_readDeeper : ML mX8_readDeeper 1 := ⟨TT_of (i := 812) (by decide +kernel) rfl, TT_of (i := 96) (by decide +kernel) rfl, ⟨by decide +kernel, by decide +kernel⟩, by decide +kernel⟩
theorem iv_X8_readDeeper : Cond.instanceMethod mX8_readDeeper.1 ∈ TT ∧ Cond.selects mX8_readDeeper.1.cls mX8_readDeeper.1 mX8_readDeeper.1 ∈ TT := ⟨TT_of (i := 811) (by decide +kernel) rfl, TT_of (i := 19) (by decide +kernel) rfl⟩
abbrev mX8_takeSign : MI := (yX8_takeSign, cX8_takeSign, 2, some .boolean)
theorem ml_X8_takeSign : ML mX8_takeSign 1 := ⟨TT_of (i := 816) (by decide +kernel) rfl, TT_of (i := 96) (by decide +kernel) rfl, ⟨by decide +kernel, by decide +kernel⟩, by decide +kernel⟩
theorem iv_X8_takeSign : Cond.instanceMethod mX8_takeSign.1 ∈ TT ∧ Cond.selects mX8_takeSign.1.cls mX8_takeSign.1 mX8_takeSign.1 ∈ TT := ⟨TT_of (i := 815) (by decide +kernel) rfl, TT_of (i := 20) (by decide +kernel) rfl⟩
abbrev mX8_addCell : MI := (yX8_addCell, cX8_addCell, 2, none)
theorem ml_X8_addCell : ML mX8_addCell 1 := ⟨TT_of (i := 820) (by decide +kernel) rfl, TT_of (i := 96) (by decide +kernel) rfl, ⟨by decide +kernel, by decide +kernel⟩, by decide +kernel⟩
theorem iv_X8_addCell : Cond.instanceMethod mX8_addCell.1 ∈ TT ∧ Cond.selects mX8_addCell.1.cls mX8_addCell.1 mX8_addCell.1 ∈ TT := ⟨TT_of (i := 819) (by decide +kernel) rfl, TT_of (i := 21) (by decide +kernel) rfl⟩
abbrev mX8_readSum : MI := (yX8_readSum, cX8_readSum, 4, some .boolean)
theorem ml_X8_readSum : ML mX8_readSum 0 := ⟨TT_of (i := 826) (by decide +kernel) rfl, TT_of (i := 96) (by decide +kernel) rfl, ⟨by decide +kernel, by decide +kernel⟩, by decide +kernel⟩
theorem iv_X8_readSum : Cond.instanceMethod mX8_readSum.1 ∈ TT ∧ Cond.selects mX8_readSum.1.cls mX8_readSum.1 mX8_readSum.1 ∈ TT := ⟨TT_of (i := 825) (by decide +kernel) rfl, TT_of (i := 22) (by decide +kernel) rfl⟩
abbrev mX8_setHead : MI := (yX8_setHead, cX8_setHead, 5, none)
theorem ml_X8_setHead : ML mX8_setHead 3 := ⟨TT_of (i := 834) (by decide +kernel) rfl, TT_of (i := 96) (by decide +kernel) rfl, ⟨by decide +kernel, by decide +kernel⟩, by decide +kernel⟩
theorem iv_X8_setHead : Cond.instanceMethod mX8_setHead.1 ∈ TT ∧ Cond.selects mX8_setHead.1.cls mX8_setHead.1 mX8_setHead.1 ∈ TT := ⟨TT_of (i := 833) (by decide +kernel) rfl, TT_of (i := 23) (by decide +kernel) rfl⟩
abbrev mX8_readRuleLine : MI := (yX8_readRuleLine, cX8_readRuleLine, 3, some .boolean)
theorem ml_X8_readRuleLine : ML mX8_readRuleLine 0 := ⟨TT_of (i := 838) (by decide +kernel) rfl, TT_of (i := 96) (by decide +kernel) rfl, ⟨by decide +kernel, by decide +kernel⟩, by decide +kernel⟩
theorem iv_X8_readRuleLine : Cond.instanceMethod mX8_readRuleLine.1 ∈ TT ∧ Cond.selects mX8_readRuleLine.1.cls mX8_readRuleLine.1 mX8_readRuleLine.1 ∈ TT := ⟨TT_of (i := 837) (by decide +kernel) rfl, TT_of (i := 24) (by decide +kernel) rfl⟩
abbrev mX11_requireNumber : MI := (yX11_requireNumber, cX11_requireNumber, 1, none)
theorem ml_X11_requireNumber : ML mX11_requireNumber 1 := ⟨TT_of (i := 848) (by decide +kernel) rfl, TT_of (i := 92) (by decide +kernel) rfl, ⟨by decide +kernel, by decide +kernel⟩, by decide +kernel⟩
theorem st_X11_requireNumber : Cond.static yX11_requireNumber ∈ TT := TT_of (i := 847) (by decide +kernel) rfl
abbrev mX11_requireRoom : MI := (yX11_requireRoom, cX11_requireRoom, 1, none)
theorem ml_X11_requireRoom : ML mX11_requireRoom 1 := ⟨TT_of (i := 915) (by decide +kernel) rfl, TT_of (i := 92) (by decide +kernel) rfl, ⟨by decide +kernel, by decide +kernel⟩, by decide +kernel⟩
theorem st_X11_requireRoom : Cond.static yX11_requireRoom ∈ TT := TT_of (i := 914) (by decide +kernel) rfl
abbrev mX11_goals : MI := (yX11_goals, cX11_goals, 2, some .int)
theorem ml_X11_goals : ML mX11_goals 0 := ⟨TT_of (i := 937) (by decide +kernel) rfl, TT_of (i := 92) (by decide +kernel) rfl, ⟨by decide +kernel, by decide +kernel⟩, by decide +kernel⟩
theorem iv_X11_goals : Cond.instanceMethod mX11_goals.1 ∈ TT ∧ Cond.selects mX11_goals.1.cls mX11_goals.1 mX11_goals.1 ∈ TT := ⟨TT_of (i := 935) (by decide +kernel) rfl, TT_of (i := 936) (by decide +kernel) rfl⟩
abbrev mX8_made : MI := (yX8_made, cX8_made, 1, some (.object "WhistleBook$Code"))
theorem ml_X8_made : ML mX8_made 0 := ⟨TT_of (i := 942) (by decide +kernel) rfl, TT_of (i := 96) (by decide +kernel) rfl, ⟨by decide +kernel, by decide +kernel⟩, by decide +kernel⟩
theorem iv_X8_made : Cond.instanceMethod mX8_made.1 ∈ TT ∧ Cond.selects mX8_made.1.cls mX8_made.1 mX8_made.1 ∈ TT := ⟨TT_of (i := 940) (by decide +kernel) rfl, TT_of (i := 941) (by decide +kernel) rfl⟩
abbrev mX2_init : MI := (yX2_init, cX2_init, 5, none)
theorem ml_X2_init : ML mX2_init 4 := ⟨TT_of (i := 946) (by decide +kernel) rfl, TT_of (i := 98) (by decide +kernel) rfl, ⟨by decide +kernel, by decide +kernel⟩, by decide +kernel⟩
theorem ic_X2_init : Cond.instanceMethod yX2_init ∈ TT := TT_of (i := 945) (by decide +kernel) rfl
abbrev mX11_rule : MI := (yX11_rule, cX11_rule, 2, some .int)
theorem ml_X11_rule : ML mX11_rule 0 := ⟨TT_of (i := 955) (by decide +kernel) rfl, TT_of (i := 92) (by decide +kernel) rfl, ⟨by decide +kernel, by decide +kernel⟩, by decide +kernel⟩
theorem iv_X11_rule : Cond.instanceMethod mX11_rule.1 ∈ TT ∧ Cond.selects mX11_rule.1.cls mX11_rule.1 mX11_rule.1 ∈ TT := ⟨TT_of (i := 953) (by decide +kernel) rfl, TT_of (i := 954) (by decide +kernel) rfl⟩
abbrev mX1_addRule : MI := (yX1_addRule, cX1_addRule, 3, some .int)
theorem ml_X1_addRule : ML mX1_addRule 1 := ⟨TT_of (i := 959) (by decide +kernel) rfl, TT_of (i := 97) (by decide +kernel) rfl, ⟨by decide +kernel, by decide +kernel⟩, by decide +kernel⟩
theorem iv_X1_addRule : Cond.instanceMethod mX1_addRule.1 ∈ TT ∧ Cond.selects mX1_addRule.1.cls mX1_addRule.1 mX1_addRule.1 ∈ TT := ⟨TT_of (i := 957) (by decide +kernel) rfl, TT_of (i := 958) (by decide +kernel) rfl⟩
abbrev mX11_follows : MI := (yX11_follows, cX11_follows, 3, some .int)
theorem ml_X11_follows : ML mX11_follows 2 := ⟨TT_of (i := 968) (by decide +kernel) rfl, TT_of (i := 92) (by decide +kernel) rfl, ⟨by decide +kernel, by decide +kernel⟩, by decide +kernel⟩
theorem iv_X11_follows : Cond.instanceMethod mX11_follows.1 ∈ TT ∧ Cond.selects mX11_follows.1.cls mX11_follows.1 mX11_follows.1 ∈ TT := ⟨TT_of (i := 966) (by decide +kernel) rfl, TT_of (i := 967) (by decide +kernel) rfl⟩
abbrev mX11_isState : MI := (yX11_isState, cX11_isState, 1, some .boolean)
theorem ml_X11_isState : ML mX11_isState 1 := ⟨TT_of (i := 971) (by decide +kernel) rfl, TT_of (i := 92) (by decide +kernel) rfl, ⟨by decide +kernel, by decide +kernel⟩, by decide +kernel⟩
theorem st_X11_isState : Cond.static yX11_isState ∈ TT := TT_of (i := 970) (by decide +kernel) rfl
abbrev mX11_requirePlace : MI := (yX11_requirePlace, cX11_requirePlace, 1, none)
theorem ml_X11_requirePlace : ML mX11_requirePlace 1 := ⟨TT_of (i := 974) (by decide +kernel) rfl, TT_of (i := 92) (by decide +kernel) rfl, ⟨by decide +kernel, by decide +kernel⟩, by decide +kernel⟩
theorem st_X11_requirePlace : Cond.static yX11_requirePlace ∈ TT := TT_of (i := 973) (by decide +kernel) rfl
abbrev mX11_requireWhat : MI := (yX11_requireWhat, cX11_requireWhat, 2, none)
theorem ml_X11_requireWhat : ML mX11_requireWhat 2 := ⟨TT_of (i := 992) (by decide +kernel) rfl, TT_of (i := 92) (by decide +kernel) rfl, ⟨by decide +kernel, by decide +kernel⟩, by decide +kernel⟩
theorem st_X11_requireWhat : Cond.static yX11_requireWhat ∈ TT := TT_of (i := 991) (by decide +kernel) rfl
abbrev mX11_kick : MI := (yX11_kick, cX11_kick, 2, some .int)
theorem ml_X11_kick : ML mX11_kick 1 := ⟨TT_of (i := 1016) (by decide +kernel) rfl, TT_of (i := 92) (by decide +kernel) rfl, ⟨by decide +kernel, by decide +kernel⟩, by decide +kernel⟩
theorem iv_X11_kick : Cond.instanceMethod mX11_kick.1 ∈ TT ∧ Cond.selects mX11_kick.1.cls mX11_kick.1 mX11_kick.1 ∈ TT := ⟨TT_of (i := 1014) (by decide +kernel) rfl, TT_of (i := 1015) (by decide +kernel) rfl⟩
abbrev mX11_isZone : MI := (yX11_isZone, cX11_isZone, 1, some .boolean)
theorem ml_X11_isZone : ML mX11_isZone 1 := ⟨TT_of (i := 1019) (by decide +kernel) rfl, TT_of (i := 92) (by decide +kernel) rfl, ⟨by decide +kernel, by decide +kernel⟩, by decide +kernel⟩
theorem st_X11_isZone : Cond.static yX11_isZone ∈ TT := TT_of (i := 1018) (by decide +kernel) rfl
abbrev mX11_now : MI := (yX11_now, cX11_now, 3, none)
theorem ml_X11_now : ML mX11_now 2 := ⟨TT_of (i := 1027) (by decide +kernel) rfl, TT_of (i := 92) (by decide +kernel) rfl, ⟨by decide +kernel, by decide +kernel⟩, by decide +kernel⟩
theorem iv_X11_now : Cond.instanceMethod mX11_now.1 ∈ TT ∧ Cond.selects mX11_now.1.cls mX11_now.1 mX11_now.1 ∈ TT := ⟨TT_of (i := 1025) (by decide +kernel) rfl, TT_of (i := 1026) (by decide +kernel) rfl⟩
abbrev mX11_lost : MI := (yX11_lost, cX11_lost, 2, none)
theorem ml_X11_lost : ML mX11_lost 1 := ⟨TT_of (i := 1034) (by decide +kernel) rfl, TT_of (i := 92) (by decide +kernel) rfl, ⟨by decide +kernel, by decide +kernel⟩, by decide +kernel⟩
theorem iv_X11_lost : Cond.instanceMethod mX11_lost.1 ∈ TT ∧ Cond.selects mX11_lost.1.cls mX11_lost.1 mX11_lost.1 ∈ TT := ⟨TT_of (i := 1032) (by decide +kernel) rfl, TT_of (i := 1033) (by decide +kernel) rfl⟩
abbrev mX11_horizon : MI := (yX11_horizon, cX11_horizon, 2, none)
theorem ml_X11_horizon : ML mX11_horizon 1 := ⟨TT_of (i := 1041) (by decide +kernel) rfl, TT_of (i := 92) (by decide +kernel) rfl, ⟨by decide +kernel, by decide +kernel⟩, by decide +kernel⟩
theorem iv_X11_horizon : Cond.instanceMethod mX11_horizon.1 ∈ TT ∧ Cond.selects mX11_horizon.1.cls mX11_horizon.1 mX11_horizon.1 ∈ TT := ⟨TT_of (i := 1039) (by decide +kernel) rfl, TT_of (i := 1040) (by decide +kernel) rfl⟩
abbrev mX11_grace : MI := (yX11_grace, cX11_grace, 2, none)
theorem ml_X11_grace : ML mX11_grace 1 := ⟨TT_of (i := 1048) (by decide +kernel) rfl, TT_of (i := 92) (by decide +kernel) rfl, ⟨by decide +kernel, by decide +kernel⟩, by decide +kernel⟩
theorem iv_X11_grace : Cond.instanceMethod mX11_grace.1 ∈ TT ∧ Cond.selects mX11_grace.1.cls mX11_grace.1 mX11_grace.1 ∈ TT := ⟨TT_of (i := 1046) (by decide +kernel) rfl, TT_of (i := 1047) (by decide +kernel) rfl⟩
abbrev mX11_sort : MI := (yX11_sort, cX11_sort, 3, some .int)
theorem ml_X11_sort : ML mX11_sort 2 := ⟨TT_of (i := 1055) (by decide +kernel) rfl, TT_of (i := 92) (by decide +kernel) rfl, ⟨by decide +kernel, by decide +kernel⟩, by decide +kernel⟩
theorem iv_X11_sort : Cond.instanceMethod mX11_sort.1 ∈ TT ∧ Cond.selects mX11_sort.1.cls mX11_sort.1 mX11_sort.1 ∈ TT := ⟨TT_of (i := 1053) (by decide +kernel) rfl, TT_of (i := 1054) (by decide +kernel) rfl⟩
abbrev mX1_addSort : MI := (yX1_addSort, cX1_addSort, 4, some .int)
theorem ml_X1_addSort : ML mX1_addSort 2 := ⟨TT_of (i := 1059) (by decide +kernel) rfl, TT_of (i := 97) (by decide +kernel) rfl, ⟨by decide +kernel, by decide +kernel⟩, by decide +kernel⟩
theorem iv_X1_addSort : Cond.instanceMethod mX1_addSort.1 ∈ TT ∧ Cond.selects mX1_addSort.1.cls mX1_addSort.1 mX1_addSort.1 ∈ TT := ⟨TT_of (i := 1057) (by decide +kernel) rfl, TT_of (i := 1058) (by decide +kernel) rfl⟩
abbrev mX11_patience : MI := (yX11_patience, cX11_patience, 2, none)
theorem ml_X11_patience : ML mX11_patience 1 := ⟨TT_of (i := 1066) (by decide +kernel) rfl, TT_of (i := 92) (by decide +kernel) rfl, ⟨by decide +kernel, by decide +kernel⟩, by decide +kernel⟩
theorem iv_X11_patience : Cond.instanceMethod mX11_patience.1 ∈ TT ∧ Cond.selects mX11_patience.1.cls mX11_patience.1 mX11_patience.1 ∈ TT := ⟨TT_of (i := 1064) (by decide +kernel) rfl, TT_of (i := 1065) (by decide +kernel) rfl⟩
abbrev mX11_worth : MI := (yX11_worth, cX11_worth, 3, some .long)
theorem ml_X11_worth : ML mX11_worth 2 := ⟨TT_of (i := 1073) (by decide +kernel) rfl, TT_of (i := 92) (by decide +kernel) rfl, ⟨by decide +kernel, by decide +kernel⟩, by decide +kernel⟩
theorem iv_X11_worth : Cond.instanceMethod mX11_worth.1 ∈ TT ∧ Cond.selects mX11_worth.1.cls mX11_worth.1 mX11_worth.1 ∈ TT := ⟨TT_of (i := 1071) (by decide +kernel) rfl, TT_of (i := 1072) (by decide +kernel) rfl⟩
abbrev mX0_open : MI := (yX0_open, cX0_open, 6, none)
theorem ml_X0_open : ML mX0_open 2 := ⟨TT_of (i := 1077) (by decide +kernel) rfl, TT_of (i := 99) (by decide +kernel) rfl, ⟨by decide +kernel, by decide +kernel⟩, by decide +kernel⟩
theorem iv_X0_open : Cond.instanceMethod mX0_open.1 ∈ TT ∧ Cond.selects mX0_open.1.cls mX0_open.1 mX0_open.1 ∈ TT := ⟨TT_of (i := 1075) (by decide +kernel) rfl, TT_of (i := 1076) (by decide +kernel) rfl⟩
abbrev mX9_read : MI := (yX9_read, cX9_read, 6, none)
theorem ml_X9_read : ML mX9_read 1 := ⟨TT_of (i := 1082) (by decide +kernel) rfl, TT_of (i := 100) (by decide +kernel) rfl, ⟨by decide +kernel, by decide +kernel⟩, by decide +kernel⟩
theorem iv_X9_read : Cond.instanceMethod mX9_read.1 ∈ TT ∧ Cond.selects mX9_read.1.cls mX9_read.1 mX9_read.1 ∈ TT := ⟨TT_of (i := 1080) (by decide +kernel) rfl, TT_of (i := 1081) (by decide +kernel) rfl⟩
abbrev mX9_mix : MI := (yX9_mix, cX9_mix, 9, some .int)
theorem ml_X9_mix : ML mX9_mix 5 := ⟨TT_of (i := 1089) (by decide +kernel) rfl, TT_of (i := 100) (by decide +kernel) rfl, ⟨by decide +kernel, by decide +kernel⟩, by decide +kernel⟩
theorem iv_X9_mix : Cond.instanceMethod mX9_mix.1 ∈ TT ∧ Cond.selects mX9_mix.1.cls mX9_mix.1 mX9_mix.1 ∈ TT := ⟨TT_of (i := 1087) (by decide +kernel) rfl, TT_of (i := 1088) (by decide +kernel) rfl⟩
abbrev mJ9_floorDiv_7cf53 : MI := (yJ9_floorDiv_7cf53, cJ9_floorDiv_7cf53, 3, some .int)
theorem ml_J9_floorDiv_7cf53 : ML mJ9_floorDiv_7cf53 2 := ⟨TT_of (i := 1093) (by decide +kernel) rfl, TT_of (i := 115) (by decide +kernel) rfl, ⟨by decide +kernel, by decide +kernel⟩, by decide +kernel⟩
theorem st_J9_floorDiv_7cf53 : Cond.static yJ9_floorDiv_7cf53 ∈ TT := TT_of (i := 1092) (by decide +kernel) rfl
abbrev mX0_lettingOn : MI := (yX0_lettingOn, cX0_lettingOn, 3, some .int)
theorem ml_X0_lettingOn : ML mX0_lettingOn 2 := ⟨TT_of (i := 1097) (by decide +kernel) rfl, TT_of (i := 99) (by decide +kernel) rfl, ⟨by decide +kernel, by decide +kernel⟩, by decide +kernel⟩
theorem iv_X0_lettingOn : Cond.instanceMethod mX0_lettingOn.1 ∈ TT ∧ Cond.selects mX0_lettingOn.1.cls mX0_lettingOn.1 mX0_lettingOn.1 ∈ TT := ⟨TT_of (i := 1095) (by decide +kernel) rfl, TT_of (i := 1096) (by decide +kernel) rfl⟩
abbrev mX11_stop : MI := (yX11_stop, cX11_stop, 5, some .int)
theorem ml_X11_stop : ML mX11_stop 3 := ⟨TT_of (i := 1105) (by decide +kernel) rfl, TT_of (i := 92) (by decide +kernel) rfl, ⟨by decide +kernel, by decide +kernel⟩, by decide +kernel⟩
theorem iv_X11_stop : Cond.instanceMethod mX11_stop.1 ∈ TT ∧ Cond.selects mX11_stop.1.cls mX11_stop.1 mX11_stop.1 ∈ TT := ⟨TT_of (i := 1103) (by decide +kernel) rfl, TT_of (i := 1104) (by decide +kernel) rfl⟩
abbrev mX11_requireFoul : MI := (yX11_requireFoul, cX11_requireFoul, 3, none)
theorem ml_X11_requireFoul : ML mX11_requireFoul 2 := ⟨TT_of (i := 1109) (by decide +kernel) rfl, TT_of (i := 92) (by decide +kernel) rfl, ⟨by decide +kernel, by decide +kernel⟩, by decide +kernel⟩
theorem iv_X11_requireFoul : Cond.instanceMethod mX11_requireFoul.1 ∈ TT ∧ Cond.selects mX11_requireFoul.1.cls mX11_requireFoul.1 mX11_requireFoul.1 ∈ TT := ⟨TT_of (i := 1108) (by decide +kernel) rfl, TT_of (i := 26) (by decide +kernel) rfl⟩
abbrev mX11_isSort : MI := (yX11_isSort, cX11_isSort, 2, some .boolean)
theorem ml_X11_isSort : ML mX11_isSort 1 := ⟨TT_of (i := 1113) (by decide +kernel) rfl, TT_of (i := 92) (by decide +kernel) rfl, ⟨by decide +kernel, by decide +kernel⟩, by decide +kernel⟩
theorem iv_X11_isSort : Cond.instanceMethod mX11_isSort.1 ∈ TT ∧ Cond.selects mX11_isSort.1.cls mX11_isSort.1 mX11_isSort.1 ∈ TT := ⟨TT_of (i := 1112) (by decide +kernel) rfl, TT_of (i := 27) (by decide +kernel) rfl⟩
abbrev mX1_cardNow : MI := (yX1_cardNow, cX1_cardNow, 3, some .int)
theorem ml_X1_cardNow : ML mX1_cardNow 1 := ⟨TT_of (i := 1117) (by decide +kernel) rfl, TT_of (i := 97) (by decide +kernel) rfl, ⟨by decide +kernel, by decide +kernel⟩, by decide +kernel⟩
theorem iv_X1_cardNow : Cond.instanceMethod mX1_cardNow.1 ∈ TT ∧ Cond.selects mX1_cardNow.1.cls mX1_cardNow.1 mX1_cardNow.1 ∈ TT := ⟨TT_of (i := 1115) (by decide +kernel) rfl, TT_of (i := 1116) (by decide +kernel) rfl⟩
abbrev mX1_afterwards : MI := (yX1_afterwards, cX1_afterwards, 3, some .int)
theorem ml_X1_afterwards : ML mX1_afterwards 2 := ⟨TT_of (i := 1121) (by decide +kernel) rfl, TT_of (i := 97) (by decide +kernel) rfl, ⟨by decide +kernel, by decide +kernel⟩, by decide +kernel⟩
theorem iv_X1_afterwards : Cond.instanceMethod mX1_afterwards.1 ∈ TT ∧ Cond.selects mX1_afterwards.1.cls mX1_afterwards.1 mX1_afterwards.1 ∈ TT := ⟨TT_of (i := 1119) (by decide +kernel) rfl, TT_of (i := 1120) (by decide +kernel) rfl⟩
abbrev mX1_stopWorth : MI := (yX1_stopWorth, cX1_stopWorth, 3, some .int)
theorem ml_X1_stopWorth : ML mX1_stopWorth 2 := ⟨TT_of (i := 1125) (by decide +kernel) rfl, TT_of (i := 97) (by decide +kernel) rfl, ⟨by decide +kernel, by decide +kernel⟩, by decide +kernel⟩
theorem iv_X1_stopWorth : Cond.instanceMethod mX1_stopWorth.1 ∈ TT ∧ Cond.selects mX1_stopWorth.1.cls mX1_stopWorth.1 mX1_stopWorth.1 ∈ TT := ⟨TT_of (i := 1123) (by decide +kernel) rfl, TT_of (i := 1124) (by decide +kernel) rfl⟩
abbrev mX11_judge : MI := (yX11_judge, cX11_judge, 7, some .long)
theorem ml_X11_judge : ML mX11_judge 6 := ⟨TT_of (i := 1132) (by decide +kernel) rfl, TT_of (i := 92) (by decide +kernel) rfl, ⟨by decide +kernel, by decide +kernel⟩, by decide +kernel⟩
theorem iv_X11_judge : Cond.instanceMethod mX11_judge.1 ∈ TT ∧ Cond.selects mX11_judge.1.cls mX11_judge.1 mX11_judge.1 ∈ TT := ⟨TT_of (i := 1130) (by decide +kernel) rfl, TT_of (i := 1131) (by decide +kernel) rfl⟩
abbrev mX11_requireJudge : MI := (yX11_requireJudge, cX11_requireJudge, 2, none)
theorem ml_X11_requireJudge : ML mX11_requireJudge 1 := ⟨TT_of (i := 1136) (by decide +kernel) rfl, TT_of (i := 92) (by decide +kernel) rfl, ⟨by decide +kernel, by decide +kernel⟩, by decide +kernel⟩
theorem iv_X11_requireJudge : Cond.instanceMethod mX11_requireJudge.1 ∈ TT ∧ Cond.selects mX11_requireJudge.1.cls mX11_requireJudge.1 mX11_requireJudge.1 ∈ TT := ⟨TT_of (i := 1135) (by decide +kernel) rfl, TT_of (i := 28) (by decide +kernel) rfl⟩
abbrev mX11_isBarFor : MI := (yX11_isBarFor, cX11_isBarFor, 2, some .boolean)
theorem ml_X11_isBarFor : ML mX11_isBarFor 2 := ⟨TT_of (i := 1139) (by decide +kernel) rfl, TT_of (i := 92) (by decide +kernel) rfl, ⟨by decide +kernel, by decide +kernel⟩, by decide +kernel⟩
theorem st_X11_isBarFor : Cond.static yX11_isBarFor ∈ TT := TT_of (i := 1138) (by decide +kernel) rfl
abbrev mX11_seat : MI := (yX11_seat, cX11_seat, 5, none)
theorem ml_X11_seat : ML mX11_seat 4 := ⟨TT_of (i := 1143) (by decide +kernel) rfl, TT_of (i := 92) (by decide +kernel) rfl, ⟨by decide +kernel, by decide +kernel⟩, by decide +kernel⟩
theorem iv_X11_seat : Cond.instanceMethod mX11_seat.1 ∈ TT ∧ Cond.selects mX11_seat.1.cls mX11_seat.1 mX11_seat.1 ∈ TT := ⟨TT_of (i := 1142) (by decide +kernel) rfl, TT_of (i := 29) (by decide +kernel) rfl⟩
abbrev mX0_seat : MI := (yX0_seat, cX0_seat, 3, none)
theorem ml_X0_seat : ML mX0_seat 2 := ⟨TT_of (i := 1147) (by decide +kernel) rfl, TT_of (i := 99) (by decide +kernel) rfl, ⟨by decide +kernel, by decide +kernel⟩, by decide +kernel⟩
theorem iv_X0_seat : Cond.instanceMethod mX0_seat.1 ∈ TT ∧ Cond.selects mX0_seat.1.cls mX0_seat.1 mX0_seat.1 ∈ TT := ⟨TT_of (i := 1145) (by decide +kernel) rfl, TT_of (i := 1146) (by decide +kernel) rfl⟩
abbrev mX0_lay : MI := (yX0_lay, cX0_lay, 6, none)
theorem ml_X0_lay : ML mX0_lay 3 := ⟨TT_of (i := 1151) (by decide +kernel) rfl, TT_of (i := 99) (by decide +kernel) rfl, ⟨by decide +kernel, by decide +kernel⟩, by decide +kernel⟩
theorem iv_X0_lay : Cond.instanceMethod mX0_lay.1 ∈ TT ∧ Cond.selects mX0_lay.1.cls mX0_lay.1 mX0_lay.1 ∈ TT := ⟨TT_of (i := 1149) (by decide +kernel) rfl, TT_of (i := 1150) (by decide +kernel) rfl⟩
abbrev mX0_decide : MI := (yX0_decide, cX0_decide, 6, none)
theorem ml_X0_decide : ML mX0_decide 2 := ⟨TT_of (i := 1157) (by decide +kernel) rfl, TT_of (i := 99) (by decide +kernel) rfl, ⟨by decide +kernel, by decide +kernel⟩, by decide +kernel⟩
theorem iv_X0_decide : Cond.instanceMethod mX0_decide.1 ∈ TT ∧ Cond.selects mX0_decide.1.cls mX0_decide.1 mX0_decide.1 ∈ TT := ⟨TT_of (i := 1156) (by decide +kernel) rfl, TT_of (i := 30) (by decide +kernel) rfl⟩
abbrev mX0_wish : MI := (yX0_wish, cX0_wish, 5, some .int)
theorem ml_X0_wish : ML mX0_wish 4 := ⟨TT_of (i := 1162) (by decide +kernel) rfl, TT_of (i := 99) (by decide +kernel) rfl, ⟨by decide +kernel, by decide +kernel⟩, by decide +kernel⟩
theorem iv_X0_wish : Cond.instanceMethod mX0_wish.1 ∈ TT ∧ Cond.selects mX0_wish.1.cls mX0_wish.1 mX0_wish.1 ∈ TT := ⟨TT_of (i := 1161) (by decide +kernel) rfl, TT_of (i := 31) (by decide +kernel) rfl⟩
abbrev mX1_ruleOf : MI := (yX1_ruleOf, cX1_ruleOf, 2, some (.object "WhistleBook$Code"))
theorem ml_X1_ruleOf : ML mX1_ruleOf 1 := ⟨TT_of (i := 1166) (by decide +kernel) rfl, TT_of (i := 97) (by decide +kernel) rfl, ⟨by decide +kernel, by decide +kernel⟩, by decide +kernel⟩
theorem iv_X1_ruleOf : Cond.instanceMethod mX1_ruleOf.1 ∈ TT ∧ Cond.selects mX1_ruleOf.1.cls mX1_ruleOf.1 mX1_ruleOf.1 ∈ TT := ⟨TT_of (i := 1164) (by decide +kernel) rfl, TT_of (i := 1165) (by decide +kernel) rfl⟩
abbrev mX2_deed : MI := (yX2_deed, cX2_deed, 4, some .int)
theorem ml_X2_deed : ML mX2_deed 2 := ⟨TT_of (i := 1170) (by decide +kernel) rfl, TT_of (i := 98) (by decide +kernel) rfl, ⟨by decide +kernel, by decide +kernel⟩, by decide +kernel⟩
theorem iv_X2_deed : Cond.instanceMethod mX2_deed.1 ∈ TT ∧ Cond.selects mX2_deed.1.cls mX2_deed.1 mX2_deed.1 ∈ TT := ⟨TT_of (i := 1168) (by decide +kernel) rfl, TT_of (i := 1169) (by decide +kernel) rfl⟩
abbrev mX0_worthAt : MI := (yX0_worthAt, cX0_worthAt, 3, some .int)
theorem ml_X0_worthAt : ML mX0_worthAt 2 := ⟨TT_of (i := 1174) (by decide +kernel) rfl, TT_of (i := 99) (by decide +kernel) rfl, ⟨by decide +kernel, by decide +kernel⟩, by decide +kernel⟩
theorem iv_X0_worthAt : Cond.instanceMethod mX0_worthAt.1 ∈ TT ∧ Cond.selects mX0_worthAt.1.cls mX0_worthAt.1 mX0_worthAt.1 ∈ TT := ⟨TT_of (i := 1172) (by decide +kernel) rfl, TT_of (i := 1173) (by decide +kernel) rfl⟩
abbrev mX11_does : MI := (yX11_does, cX11_does, 7, some .int)
theorem ml_X11_does : ML mX11_does 6 := ⟨TT_of (i := 1181) (by decide +kernel) rfl, TT_of (i := 92) (by decide +kernel) rfl, ⟨by decide +kernel, by decide +kernel⟩, by decide +kernel⟩
theorem iv_X11_does : Cond.instanceMethod mX11_does.1 ∈ TT ∧ Cond.selects mX11_does.1.cls mX11_does.1 mX11_does.1 ∈ TT := ⟨TT_of (i := 1179) (by decide +kernel) rfl, TT_of (i := 1180) (by decide +kernel) rfl⟩
abbrev mX0_deedAt : MI := (yX0_deedAt, cX0_deedAt, 3, some .int)
theorem ml_X0_deedAt : ML mX0_deedAt 2 := ⟨TT_of (i := 1185) (by decide +kernel) rfl, TT_of (i := 99) (by decide +kernel) rfl, ⟨by decide +kernel, by decide +kernel⟩, by decide +kernel⟩
theorem iv_X0_deedAt : Cond.instanceMethod mX0_deedAt.1 ∈ TT ∧ Cond.selects mX0_deedAt.1.cls mX0_deedAt.1 mX0_deedAt.1 ∈ TT := ⟨TT_of (i := 1183) (by decide +kernel) rfl, TT_of (i := 1184) (by decide +kernel) rfl⟩
abbrev mX11_waits : MI := (yX11_waits, cX11_waits, 4, some .long)
theorem ml_X11_waits : ML mX11_waits 3 := ⟨TT_of (i := 1192) (by decide +kernel) rfl, TT_of (i := 92) (by decide +kernel) rfl, ⟨by decide +kernel, by decide +kernel⟩, by decide +kernel⟩
theorem iv_X11_waits : Cond.instanceMethod mX11_waits.1 ∈ TT ∧ Cond.selects mX11_waits.1.cls mX11_waits.1 mX11_waits.1 ∈ TT := ⟨TT_of (i := 1190) (by decide +kernel) rfl, TT_of (i := 1191) (by decide +kernel) rfl⟩
abbrev mX11_bestBy : MI := (yX11_bestBy, cX11_bestBy, 5, some .int)
theorem ml_X11_bestBy : ML mX11_bestBy 4 := ⟨TT_of (i := 1196) (by decide +kernel) rfl, TT_of (i := 92) (by decide +kernel) rfl, ⟨by decide +kernel, by decide +kernel⟩, by decide +kernel⟩
theorem iv_X11_bestBy : Cond.instanceMethod mX11_bestBy.1 ∈ TT ∧ Cond.selects mX11_bestBy.1.cls mX11_bestBy.1 mX11_bestBy.1 ∈ TT := ⟨TT_of (i := 1195) (by decide +kernel) rfl, TT_of (i := 32) (by decide +kernel) rfl⟩
abbrev mX11_enough : MI := (yX11_enough, cX11_enough, 6, some .int)
theorem ml_X11_enough : ML mX11_enough 3 := ⟨TT_of (i := 1203) (by decide +kernel) rfl, TT_of (i := 92) (by decide +kernel) rfl, ⟨by decide +kernel, by decide +kernel⟩, by decide +kernel⟩
theorem iv_X11_enough : Cond.instanceMethod mX11_enough.1 ∈ TT ∧ Cond.selects mX11_enough.1.cls mX11_enough.1 mX11_enough.1 ∈ TT := ⟨TT_of (i := 1201) (by decide +kernel) rfl, TT_of (i := 1202) (by decide +kernel) rfl⟩
abbrev mX11_loses : MI := (yX11_loses, cX11_loses, 9, some .long)
theorem ml_X11_loses : ML mX11_loses 5 := ⟨TT_of (i := 1210) (by decide +kernel) rfl, TT_of (i := 92) (by decide +kernel) rfl, ⟨by decide +kernel, by decide +kernel⟩, by decide +kernel⟩
theorem iv_X11_loses : Cond.instanceMethod mX11_loses.1 ∈ TT ∧ Cond.selects mX11_loses.1.cls mX11_loses.1 mX11_loses.1 ∈ TT := ⟨TT_of (i := 1208) (by decide +kernel) rfl, TT_of (i := 1209) (by decide +kernel) rfl⟩
abbrev mX0_worthTogether : MI := (yX0_worthTogether, cX0_worthTogether, 5, some .int)
theorem ml_X0_worthTogether : ML mX0_worthTogether 2 := ⟨TT_of (i := 1214) (by decide +kernel) rfl, TT_of (i := 99) (by decide +kernel) rfl, ⟨by decide +kernel, by decide +kernel⟩, by decide +kernel⟩
theorem iv_X0_worthTogether : Cond.instanceMethod mX0_worthTogether.1 ∈ TT ∧ Cond.selects mX0_worthTogether.1.cls mX0_worthTogether.1 mX0_worthTogether.1 ∈ TT := ⟨TT_of (i := 1212) (by decide +kernel) rfl, TT_of (i := 1213) (by decide +kernel) rfl⟩
abbrev mX11_part : MI := (yX11_part, cX11_part, 7, some .int)
theorem ml_X11_part : ML mX11_part 6 := ⟨TT_of (i := 1222) (by decide +kernel) rfl, TT_of (i := 92) (by decide +kernel) rfl, ⟨by decide +kernel, by decide +kernel⟩, by decide +kernel⟩
theorem iv_X11_part : Cond.instanceMethod mX11_part.1 ∈ TT ∧ Cond.selects mX11_part.1.cls mX11_part.1 mX11_part.1 ∈ TT := ⟨TT_of (i := 1220) (by decide +kernel) rfl, TT_of (i := 1221) (by decide +kernel) rfl⟩
abbrev mX0_keepDeeds : MI := (yX0_keepDeeds, cX0_keepDeeds, 1, none)
theorem ml_X0_keepDeeds : ML mX0_keepDeeds 0 := ⟨TT_of (i := 1226) (by decide +kernel) rfl, TT_of (i := 99) (by decide +kernel) rfl, ⟨by decide +kernel, by decide +kernel⟩, by decide +kernel⟩
theorem iv_X0_keepDeeds : Cond.instanceMethod mX0_keepDeeds.1 ∈ TT ∧ Cond.selects mX0_keepDeeds.1.cls mX0_keepDeeds.1 mX0_keepDeeds.1 ∈ TT := ⟨TT_of (i := 1224) (by decide +kernel) rfl, TT_of (i := 1225) (by decide +kernel) rfl⟩
abbrev mX0_firstOtherDeed : MI := (yX0_firstOtherDeed, cX0_firstOtherDeed, 2, some .int)
theorem ml_X0_firstOtherDeed : ML mX0_firstOtherDeed 0 := ⟨TT_of (i := 1231) (by decide +kernel) rfl, TT_of (i := 99) (by decide +kernel) rfl, ⟨by decide +kernel, by decide +kernel⟩, by decide +kernel⟩
theorem iv_X0_firstOtherDeed : Cond.instanceMethod mX0_firstOtherDeed.1 ∈ TT ∧ Cond.selects mX0_firstOtherDeed.1.cls mX0_firstOtherDeed.1 mX0_firstOtherDeed.1 ∈ TT := ⟨TT_of (i := 1229) (by decide +kernel) rfl, TT_of (i := 1230) (by decide +kernel) rfl⟩
abbrev mX0_otherDeeds : MI := (yX0_otherDeeds, cX0_otherDeeds, 3, some .int)
theorem ml_X0_otherDeeds : ML mX0_otherDeeds 0 := ⟨TT_of (i := 1235) (by decide +kernel) rfl, TT_of (i := 99) (by decide +kernel) rfl, ⟨by decide +kernel, by decide +kernel⟩, by decide +kernel⟩
theorem iv_X0_otherDeeds : Cond.instanceMethod mX0_otherDeeds.1 ∈ TT ∧ Cond.selects mX0_otherDeeds.1.cls mX0_otherDeeds.1 mX0_otherDeeds.1 ∈ TT := ⟨TT_of (i := 1233) (by decide +kernel) rfl, TT_of (i := 1234) (by decide +kernel) rfl⟩
abbrev mX11_bar : MI := (yX11_bar, cX11_bar, 7, some .int)
theorem ml_X11_bar : ML mX11_bar 2 := ⟨TT_of (i := 1242) (by decide +kernel) rfl, TT_of (i := 92) (by decide +kernel) rfl, ⟨by decide +kernel, by decide +kernel⟩, by decide +kernel⟩
theorem iv_X11_bar : Cond.instanceMethod mX11_bar.1 ∈ TT ∧ Cond.selects mX11_bar.1.cls mX11_bar.1 mX11_bar.1 ∈ TT := ⟨TT_of (i := 1240) (by decide +kernel) rfl, TT_of (i := 1241) (by decide +kernel) rfl⟩
abbrev mX11_pays : MI := (yX11_pays, cX11_pays, 4, some .int)
theorem ml_X11_pays : ML mX11_pays 3 := ⟨TT_of (i := 1249) (by decide +kernel) rfl, TT_of (i := 92) (by decide +kernel) rfl, ⟨by decide +kernel, by decide +kernel⟩, by decide +kernel⟩
theorem iv_X11_pays : Cond.instanceMethod mX11_pays.1 ∈ TT ∧ Cond.selects mX11_pays.1.cls mX11_pays.1 mX11_pays.1 ∈ TT := ⟨TT_of (i := 1247) (by decide +kernel) rfl, TT_of (i := 1248) (by decide +kernel) rfl⟩
abbrev mX0_paying : MI := (yX0_paying, cX0_paying, 7, some .int)
theorem ml_X0_paying : ML mX0_paying 3 := ⟨TT_of (i := 1253) (by decide +kernel) rfl, TT_of (i := 99) (by decide +kernel) rfl, ⟨by decide +kernel, by decide +kernel⟩, by decide +kernel⟩
theorem iv_X0_paying : Cond.instanceMethod mX0_paying.1 ∈ TT ∧ Cond.selects mX0_paying.1.cls mX0_paying.1 mX0_paying.1 ∈ TT := ⟨TT_of (i := 1251) (by decide +kernel) rfl, TT_of (i := 1252) (by decide +kernel) rfl⟩
abbrev mX0_gain : MI := (yX0_gain, cX0_gain, 2, some .int)
theorem ml_X0_gain : ML mX0_gain 1 := ⟨TT_of (i := 1258) (by decide +kernel) rfl, TT_of (i := 99) (by decide +kernel) rfl, ⟨by decide +kernel, by decide +kernel⟩, by decide +kernel⟩
theorem iv_X0_gain : Cond.instanceMethod mX0_gain.1 ∈ TT ∧ Cond.selects mX0_gain.1.cls mX0_gain.1 mX0_gain.1 ∈ TT := ⟨TT_of (i := 1256) (by decide +kernel) rfl, TT_of (i := 1257) (by decide +kernel) rfl⟩
abbrev mX11_least : MI := (yX11_least, cX11_least, 5, some .int)
theorem ml_X11_least : ML mX11_least 4 := ⟨TT_of (i := 1265) (by decide +kernel) rfl, TT_of (i := 92) (by decide +kernel) rfl, ⟨by decide +kernel, by decide +kernel⟩, by decide +kernel⟩
theorem iv_X11_least : Cond.instanceMethod mX11_least.1 ∈ TT ∧ Cond.selects mX11_least.1.cls mX11_least.1 mX11_least.1 ∈ TT := ⟨TT_of (i := 1263) (by decide +kernel) rfl, TT_of (i := 1264) (by decide +kernel) rfl⟩
abbrev mX11_leastCard : MI := (yX11_leastCard, cX11_leastCard, 8, some .int)
theorem ml_X11_leastCard : ML mX11_leastCard 2 := ⟨TT_of (i := 1269) (by decide +kernel) rfl, TT_of (i := 92) (by decide +kernel) rfl, ⟨by decide +kernel, by decide +kernel⟩, by decide +kernel⟩
theorem iv_X11_leastCard : Cond.instanceMethod mX11_leastCard.1 ∈ TT ∧ Cond.selects mX11_leastCard.1.cls mX11_leastCard.1 mX11_leastCard.1 ∈ TT := ⟨TT_of (i := 1268) (by decide +kernel) rfl, TT_of (i := 33) (by decide +kernel) rfl⟩
abbrev mX11_rate : MI := (yX11_rate, cX11_rate, 5, some .int)
theorem ml_X11_rate : ML mX11_rate 3 := ⟨TT_of (i := 1276) (by decide +kernel) rfl, TT_of (i := 92) (by decide +kernel) rfl, ⟨by decide +kernel, by decide +kernel⟩, by decide +kernel⟩
theorem iv_X11_rate : Cond.instanceMethod mX11_rate.1 ∈ TT ∧ Cond.selects mX11_rate.1.cls mX11_rate.1 mX11_rate.1 ∈ TT := ⟨TT_of (i := 1274) (by decide +kernel) rfl, TT_of (i := 1275) (by decide +kernel) rfl⟩
abbrev mX1_setRate : MI := (yX1_setRate, cX1_setRate, 4, none)
theorem ml_X1_setRate : ML mX1_setRate 3 := ⟨TT_of (i := 1281) (by decide +kernel) rfl, TT_of (i := 97) (by decide +kernel) rfl, ⟨by decide +kernel, by decide +kernel⟩, by decide +kernel⟩
theorem iv_X1_setRate : Cond.instanceMethod mX1_setRate.1 ∈ TT ∧ Cond.selects mX1_setRate.1.cls mX1_setRate.1 mX1_setRate.1 ∈ TT := ⟨TT_of (i := 1279) (by decide +kernel) rfl, TT_of (i := 1280) (by decide +kernel) rfl⟩
abbrev mX11_often : MI := (yX11_often, cX11_often, 3, some .int)
theorem ml_X11_often : ML mX11_often 2 := ⟨TT_of (i := 1288) (by decide +kernel) rfl, TT_of (i := 92) (by decide +kernel) rfl, ⟨by decide +kernel, by decide +kernel⟩, by decide +kernel⟩
theorem iv_X11_often : Cond.instanceMethod mX11_often.1 ∈ TT ∧ Cond.selects mX11_often.1.cls mX11_often.1 mX11_often.1 ∈ TT := ⟨TT_of (i := 1286) (by decide +kernel) rfl, TT_of (i := 1287) (by decide +kernel) rfl⟩
abbrev mX11_match : MI := (yX11_match, cX11_match, 7, some .long)
theorem ml_X11_match : ML mX11_match 3 := ⟨TT_of (i := 1295) (by decide +kernel) rfl, TT_of (i := 92) (by decide +kernel) rfl, ⟨by decide +kernel, by decide +kernel⟩, by decide +kernel⟩
theorem iv_X11_match : Cond.instanceMethod mX11_match.1 ∈ TT ∧ Cond.selects mX11_match.1.cls mX11_match.1 mX11_match.1 ∈ TT := ⟨TT_of (i := 1293) (by decide +kernel) rfl, TT_of (i := 1294) (by decide +kernel) rfl⟩
abbrev mX11_matchSum : MI := (yX11_matchSum, cX11_matchSum, 7, some .long)
theorem ml_X11_matchSum : ML mX11_matchSum 1 := ⟨TT_of (i := 1299) (by decide +kernel) rfl, TT_of (i := 92) (by decide +kernel) rfl, ⟨by decide +kernel, by decide +kernel⟩, by decide +kernel⟩
theorem iv_X11_matchSum : Cond.instanceMethod mX11_matchSum.1 ∈ TT ∧ Cond.selects mX11_matchSum.1.cls mX11_matchSum.1 mX11_matchSum.1 ∈ TT := ⟨TT_of (i := 1298) (by decide +kernel) rfl, TT_of (i := 34) (by decide +kernel) rfl⟩
abbrev mX1_anyRate : MI := (yX1_anyRate, cX1_anyRate, 4, some .boolean)
theorem ml_X1_anyRate : ML mX1_anyRate 2 := ⟨TT_of (i := 1303) (by decide +kernel) rfl, TT_of (i := 97) (by decide +kernel) rfl, ⟨by decide +kernel, by decide +kernel⟩, by decide +kernel⟩
theorem iv_X1_anyRate : Cond.instanceMethod mX1_anyRate.1 ∈ TT ∧ Cond.selects mX1_anyRate.1.cls mX1_anyRate.1 mX1_anyRate.1 ∈ TT := ⟨TT_of (i := 1301) (by decide +kernel) rfl, TT_of (i := 1302) (by decide +kernel) rfl⟩
abbrev mX0_stoppedRates : MI := (yX0_stoppedRates, cX0_stoppedRates, 6, some .long)
theorem ml_X0_stoppedRates : ML mX0_stoppedRates 2 := ⟨TT_of (i := 1307) (by decide +kernel) rfl, TT_of (i := 99) (by decide +kernel) rfl, ⟨by decide +kernel, by decide +kernel⟩, by decide +kernel⟩
theorem iv_X0_stoppedRates : Cond.instanceMethod mX0_stoppedRates.1 ∈ TT ∧ Cond.selects mX0_stoppedRates.1.cls mX0_stoppedRates.1 mX0_stoppedRates.1 ∈ TT := ⟨TT_of (i := 1305) (by decide +kernel) rfl, TT_of (i := 1306) (by decide +kernel) rfl⟩
abbrev mX0_ratedWorth : MI := (yX0_ratedWorth, cX0_ratedWorth, 6, some .long)
theorem ml_X0_ratedWorth : ML mX0_ratedWorth 2 := ⟨TT_of (i := 1313) (by decide +kernel) rfl, TT_of (i := 99) (by decide +kernel) rfl, ⟨by decide +kernel, by decide +kernel⟩, by decide +kernel⟩
theorem iv_X0_ratedWorth : Cond.instanceMethod mX0_ratedWorth.1 ∈ TT ∧ Cond.selects mX0_ratedWorth.1.cls mX0_ratedWorth.1 mX0_ratedWorth.1 ∈ TT := ⟨TT_of (i := 1311) (by decide +kernel) rfl, TT_of (i := 1312) (by decide +kernel) rfl⟩
abbrev mJ9_floorDiv_f86c9 : MI := (yJ9_floorDiv_f86c9, cJ9_floorDiv_f86c9, 6, some .long)
theorem ml_J9_floorDiv_f86c9 : ML mJ9_floorDiv_f86c9 2 := ⟨TT_of (i := 1317) (by decide +kernel) rfl, TT_of (i := 115) (by decide +kernel) rfl, ⟨by decide +kernel, by decide +kernel⟩, by decide +kernel⟩
theorem st_J9_floorDiv_f86c9 : Cond.static yJ9_floorDiv_f86c9 ∈ TT := TT_of (i := 1316) (by decide +kernel) rfl
abbrev mX11_learn : MI := (yX11_learn, cX11_learn, 4, some .int)
theorem ml_X11_learn : ML mX11_learn 2 := ⟨TT_of (i := 1324) (by decide +kernel) rfl, TT_of (i := 92) (by decide +kernel) rfl, ⟨by decide +kernel, by decide +kernel⟩, by decide +kernel⟩
theorem iv_X11_learn : Cond.instanceMethod mX11_learn.1 ∈ TT ∧ Cond.selects mX11_learn.1.cls mX11_learn.1 mX11_learn.1 ∈ TT := ⟨TT_of (i := 1322) (by decide +kernel) rfl, TT_of (i := 1323) (by decide +kernel) rfl⟩
abbrev mX4_begin : MI := (yX4_begin, cX4_begin, 2, none)
theorem ml_X4_begin : ML mX4_begin 0 := ⟨TT_of (i := 1328) (by decide +kernel) rfl, TT_of (i := 101) (by decide +kernel) rfl, ⟨by decide +kernel, by decide +kernel⟩, by decide +kernel⟩
theorem iv_X4_begin : Cond.instanceMethod mX4_begin.1 ∈ TT ∧ Cond.selects mX4_begin.1.cls mX4_begin.1 mX4_begin.1 ∈ TT := ⟨TT_of (i := 1326) (by decide +kernel) rfl, TT_of (i := 1327) (by decide +kernel) rfl⟩
abbrev mX4_roundChanges : MI := (yX4_roundChanges, cX4_roundChanges, 6, some .boolean)
theorem ml_X4_roundChanges : ML mX4_roundChanges 0 := ⟨TT_of (i := 1335) (by decide +kernel) rfl, TT_of (i := 101) (by decide +kernel) rfl, ⟨by decide +kernel, by decide +kernel⟩, by decide +kernel⟩
theorem iv_X4_roundChanges : Cond.instanceMethod mX4_roundChanges.1 ∈ TT ∧ Cond.selects mX4_roundChanges.1.cls mX4_roundChanges.1 mX4_roundChanges.1 ∈ TT := ⟨TT_of (i := 1333) (by decide +kernel) rfl, TT_of (i := 1334) (by decide +kernel) rfl⟩
abbrev mX4_isWorthIt : MI := (yX4_isWorthIt, cX4_isWorthIt, 6, some .boolean)
theorem ml_X4_isWorthIt : ML mX4_isWorthIt 2 := ⟨TT_of (i := 1340) (by decide +kernel) rfl, TT_of (i := 101) (by decide +kernel) rfl, ⟨by decide +kernel, by decide +kernel⟩, by decide +kernel⟩
theorem iv_X4_isWorthIt : Cond.instanceMethod mX4_isWorthIt.1 ∈ TT ∧ Cond.selects mX4_isWorthIt.1.cls mX4_isWorthIt.1 mX4_isWorthIt.1 ∈ TT := ⟨TT_of (i := 1339) (by decide +kernel) rfl, TT_of (i := 35) (by decide +kernel) rfl⟩
abbrev mX4_undo : MI := (yX4_undo, cX4_undo, 1, none)
theorem ml_X4_undo : ML mX4_undo 0 := ⟨TT_of (i := 1350) (by decide +kernel) rfl, TT_of (i := 101) (by decide +kernel) rfl, ⟨by decide +kernel, by decide +kernel⟩, by decide +kernel⟩
theorem iv_X4_undo : Cond.instanceMethod mX4_undo.1 ∈ TT ∧ Cond.selects mX4_undo.1.cls mX4_undo.1 mX4_undo.1 ∈ TT := ⟨TT_of (i := 1348) (by decide +kernel) rfl, TT_of (i := 1349) (by decide +kernel) rfl⟩
abbrev mX11_two : MI := (yX11_two, cX11_two, 9, some .long)
theorem ml_X11_two : ML mX11_two 6 := ⟨TT_of (i := 1357) (by decide +kernel) rfl, TT_of (i := 92) (by decide +kernel) rfl, ⟨by decide +kernel, by decide +kernel⟩, by decide +kernel⟩
theorem iv_X11_two : Cond.instanceMethod mX11_two.1 ∈ TT ∧ Cond.selects mX11_two.1.cls mX11_two.1 mX11_two.1 ∈ TT := ⟨TT_of (i := 1355) (by decide +kernel) rfl, TT_of (i := 1356) (by decide +kernel) rfl⟩
abbrev mX11_leans : MI := (yX11_leans, cX11_leans, 10, some .long)
theorem ml_X11_leans : ML mX11_leans 5 := ⟨TT_of (i := 1365) (by decide +kernel) rfl, TT_of (i := 92) (by decide +kernel) rfl, ⟨by decide +kernel, by decide +kernel⟩, by decide +kernel⟩
theorem iv_X11_leans : Cond.instanceMethod mX11_leans.1 ∈ TT ∧ Cond.selects mX11_leans.1.cls mX11_leans.1 mX11_leans.1 ∈ TT := ⟨TT_of (i := 1363) (by decide +kernel) rfl, TT_of (i := 1364) (by decide +kernel) rfl⟩
abbrev mX11_waysOf : MI := (yX11_waysOf, cX11_waysOf, 5, some .long)
theorem ml_X11_waysOf : ML mX11_waysOf 2 := ⟨TT_of (i := 1368) (by decide +kernel) rfl, TT_of (i := 92) (by decide +kernel) rfl, ⟨by decide +kernel, by decide +kernel⟩, by decide +kernel⟩
theorem st_X11_waysOf : Cond.static yX11_waysOf ∈ TT := TT_of (i := 1367) (by decide +kernel) rfl
abbrev mX11_played : MI := (yX11_played, cX11_played, 7, some .int)
theorem ml_X11_played : ML mX11_played 6 := ⟨TT_of (i := 1375) (by decide +kernel) rfl, TT_of (i := 92) (by decide +kernel) rfl, ⟨by decide +kernel, by decide +kernel⟩, by decide +kernel⟩
theorem iv_X11_played : Cond.instanceMethod mX11_played.1 ∈ TT ∧ Cond.selects mX11_played.1.cls mX11_played.1 mX11_played.1 ∈ TT := ⟨TT_of (i := 1373) (by decide +kernel) rfl, TT_of (i := 1374) (by decide +kernel) rfl⟩
abbrev mX3_playFrom : MI := (yX3_playFrom, cX3_playFrom, 6, none)
theorem ml_X3_playFrom : ML mX3_playFrom 1 := ⟨TT_of (i := 1379) (by decide +kernel) rfl, TT_of (i := 102) (by decide +kernel) rfl, ⟨by decide +kernel, by decide +kernel⟩, by decide +kernel⟩
theorem iv_X3_playFrom : Cond.instanceMethod mX3_playFrom.1 ∈ TT ∧ Cond.selects mX3_playFrom.1.cls mX3_playFrom.1 mX3_playFrom.1 ∈ TT := ⟨TT_of (i := 1377) (by decide +kernel) rfl, TT_of (i := 1378) (by decide +kernel) rfl⟩
abbrev mX3_draw : MI := (yX3_draw, cX3_draw, 3, some .int)
theorem ml_X3_draw : ML mX3_draw 1 := ⟨TT_of (i := 1384) (by decide +kernel) rfl, TT_of (i := 102) (by decide +kernel) rfl, ⟨by decide +kernel, by decide +kernel⟩, by decide +kernel⟩
theorem iv_X3_draw : Cond.instanceMethod mX3_draw.1 ∈ TT ∧ Cond.selects mX3_draw.1.cls mX3_draw.1 mX3_draw.1 ∈ TT := ⟨TT_of (i := 1382) (by decide +kernel) rfl, TT_of (i := 1383) (by decide +kernel) rfl⟩
abbrev mX9_drawn : MI := (yX9_drawn, cX9_drawn, 6, some .int)
theorem ml_X9_drawn : ML mX9_drawn 2 := ⟨TT_of (i := 1389) (by decide +kernel) rfl, TT_of (i := 100) (by decide +kernel) rfl, ⟨by decide +kernel, by decide +kernel⟩, by decide +kernel⟩
theorem iv_X9_drawn : Cond.instanceMethod mX9_drawn.1 ∈ TT ∧ Cond.selects mX9_drawn.1.cls mX9_drawn.1 mX9_drawn.1 ∈ TT := ⟨TT_of (i := 1387) (by decide +kernel) rfl, TT_of (i := 1388) (by decide +kernel) rfl⟩
abbrev mX11_ends : MI := (yX11_ends, cX11_ends, 7, some .int)
theorem ml_X11_ends : ML mX11_ends 6 := ⟨TT_of (i := 1396) (by decide +kernel) rfl, TT_of (i := 92) (by decide +kernel) rfl, ⟨by decide +kernel, by decide +kernel⟩, by decide +kernel⟩
theorem iv_X11_ends : Cond.instanceMethod mX11_ends.1 ∈ TT ∧ Cond.selects mX11_ends.1.cls mX11_ends.1 mX11_ends.1 ∈ TT := ⟨TT_of (i := 1394) (by decide +kernel) rfl, TT_of (i := 1395) (by decide +kernel) rfl⟩
abbrev mX3_ask : MI := (yX3_ask, cX3_ask, 5, none)
theorem ml_X3_ask : ML mX3_ask 1 := ⟨TT_of (i := 1400) (by decide +kernel) rfl, TT_of (i := 102) (by decide +kernel) rfl, ⟨by decide +kernel, by decide +kernel⟩, by decide +kernel⟩
theorem iv_X3_ask : Cond.instanceMethod mX3_ask.1 ∈ TT ∧ Cond.selects mX3_ask.1.cls mX3_ask.1 mX3_ask.1 ∈ TT := ⟨TT_of (i := 1398) (by decide +kernel) rfl, TT_of (i := 1399) (by decide +kernel) rfl⟩
abbrev mX3_share : MI := (yX3_share, cX3_share, 3, none)
theorem ml_X3_share : ML mX3_share 0 := ⟨TT_of (i := 1407) (by decide +kernel) rfl, TT_of (i := 102) (by decide +kernel) rfl, ⟨by decide +kernel, by decide +kernel⟩, by decide +kernel⟩
theorem iv_X3_share : Cond.instanceMethod mX3_share.1 ∈ TT ∧ Cond.selects mX3_share.1.cls mX3_share.1 mX3_share.1 ∈ TT := ⟨TT_of (i := 1405) (by decide +kernel) rfl, TT_of (i := 1406) (by decide +kernel) rfl⟩
abbrev mX3_shareAt : MI := (yX3_shareAt, cX3_shareAt, 5, some .int)
theorem ml_X3_shareAt : ML mX3_shareAt 2 := ⟨TT_of (i := 1412) (by decide +kernel) rfl, TT_of (i := 102) (by decide +kernel) rfl, ⟨by decide +kernel, by decide +kernel⟩, by decide +kernel⟩
theorem iv_X3_shareAt : Cond.instanceMethod mX3_shareAt.1 ∈ TT ∧ Cond.selects mX3_shareAt.1.cls mX3_shareAt.1 mX3_shareAt.1 ∈ TT := ⟨TT_of (i := 1411) (by decide +kernel) rfl, TT_of (i := 36) (by decide +kernel) rfl⟩
abbrev mX3_shareFrom : MI := (yX3_shareFrom, cX3_shareFrom, 2, some .int)
theorem ml_X3_shareFrom : ML mX3_shareFrom 1 := ⟨TT_of (i := 1417) (by decide +kernel) rfl, TT_of (i := 102) (by decide +kernel) rfl, ⟨by decide +kernel, by decide +kernel⟩, by decide +kernel⟩
theorem iv_X3_shareFrom : Cond.instanceMethod mX3_shareFrom.1 ∈ TT ∧ Cond.selects mX3_shareFrom.1.cls mX3_shareFrom.1 mX3_shareFrom.1 ∈ TT := ⟨TT_of (i := 1415) (by decide +kernel) rfl, TT_of (i := 1416) (by decide +kernel) rfl⟩
abbrev mX11_mean : MI := (yX11_mean, cX11_mean, 8, some .long)
theorem ml_X11_mean : ML mX11_mean 3 := ⟨TT_of (i := 1424) (by decide +kernel) rfl, TT_of (i := 92) (by decide +kernel) rfl, ⟨by decide +kernel, by decide +kernel⟩, by decide +kernel⟩
theorem iv_X11_mean : Cond.instanceMethod mX11_mean.1 ∈ TT ∧ Cond.selects mX11_mean.1.cls mX11_mean.1 mX11_mean.1 ∈ TT := ⟨TT_of (i := 1422) (by decide +kernel) rfl, TT_of (i := 1423) (by decide +kernel) rfl⟩
abbrev mX11_meanOf : MI := (yX11_meanOf, cX11_meanOf, 6, some .long)
theorem ml_X11_meanOf : ML mX11_meanOf 2 := ⟨TT_of (i := 1428) (by decide +kernel) rfl, TT_of (i := 92) (by decide +kernel) rfl, ⟨by decide +kernel, by decide +kernel⟩, by decide +kernel⟩
theorem iv_X11_meanOf : Cond.instanceMethod mX11_meanOf.1 ∈ TT ∧ Cond.selects mX11_meanOf.1.cls mX11_meanOf.1 mX11_meanOf.1 ∈ TT := ⟨TT_of (i := 1427) (by decide +kernel) rfl, TT_of (i := 37) (by decide +kernel) rfl⟩
abbrev mX11_plain : MI := (yX11_plain, cX11_plain, 8, some .int)
theorem ml_X11_plain : ML mX11_plain 2 := ⟨TT_of (i := 1435) (by decide +kernel) rfl, TT_of (i := 92) (by decide +kernel) rfl, ⟨by decide +kernel, by decide +kernel⟩, by decide +kernel⟩
theorem iv_X11_plain : Cond.instanceMethod mX11_plain.1 ∈ TT ∧ Cond.selects mX11_plain.1.cls mX11_plain.1 mX11_plain.1 ∈ TT := ⟨TT_of (i := 1433) (by decide +kernel) rfl, TT_of (i := 1434) (by decide +kernel) rfl⟩
abbrev mX0_seatPlain : MI := (yX0_seatPlain, cX0_seatPlain, 3, none)
theorem ml_X0_seatPlain : ML mX0_seatPlain 2 := ⟨TT_of (i := 1439) (by decide +kernel) rfl, TT_of (i := 99) (by decide +kernel) rfl, ⟨by decide +kernel, by decide +kernel⟩, by decide +kernel⟩
theorem iv_X0_seatPlain : Cond.instanceMethod mX0_seatPlain.1 ∈ TT ∧ Cond.selects mX0_seatPlain.1.cls mX0_seatPlain.1 mX0_seatPlain.1 ∈ TT := ⟨TT_of (i := 1437) (by decide +kernel) rfl, TT_of (i := 1438) (by decide +kernel) rfl⟩
abbrev mX11_right : MI := (yX11_right, cX11_right, 5, some .int)
theorem ml_X11_right : ML mX11_right 4 := ⟨TT_of (i := 1446) (by decide +kernel) rfl, TT_of (i := 92) (by decide +kernel) rfl, ⟨by decide +kernel, by decide +kernel⟩, by decide +kernel⟩
theorem iv_X11_right : Cond.instanceMethod mX11_right.1 ∈ TT ∧ Cond.selects mX11_right.1.cls mX11_right.1 mX11_right.1 ∈ TT := ⟨TT_of (i := 1444) (by decide +kernel) rfl, TT_of (i := 1445) (by decide +kernel) rfl⟩
abbrev mX0_keepWorths : MI := (yX0_keepWorths, cX0_keepWorths, 1, none)
theorem ml_X0_keepWorths : ML mX0_keepWorths 0 := ⟨TT_of (i := 1450) (by decide +kernel) rfl, TT_of (i := 99) (by decide +kernel) rfl, ⟨by decide +kernel, by decide +kernel⟩, by decide +kernel⟩
theorem iv_X0_keepWorths : Cond.instanceMethod mX0_keepWorths.1 ∈ TT ∧ Cond.selects mX0_keepWorths.1.cls mX0_keepWorths.1 mX0_keepWorths.1 ∈ TT := ⟨TT_of (i := 1448) (by decide +kernel) rfl, TT_of (i := 1449) (by decide +kernel) rfl⟩
abbrev mX0_statesAsKept : MI := (yX0_statesAsKept, cX0_statesAsKept, 3, some .int)
theorem ml_X0_statesAsKept : ML mX0_statesAsKept 0 := ⟨TT_of (i := 1454) (by decide +kernel) rfl, TT_of (i := 99) (by decide +kernel) rfl, ⟨by decide +kernel, by decide +kernel⟩, by decide +kernel⟩
theorem iv_X0_statesAsKept : Cond.instanceMethod mX0_statesAsKept.1 ∈ TT ∧ Cond.selects mX0_statesAsKept.1.cls mX0_statesAsKept.1 mX0_statesAsKept.1 ∈ TT := ⟨TT_of (i := 1452) (by decide +kernel) rfl, TT_of (i := 1453) (by decide +kernel) rfl⟩
abbrev mX11_rest : MI := (yX11_rest, cX11_rest, 4, some .long)
theorem ml_X11_rest : ML mX11_rest 3 := ⟨TT_of (i := 1461) (by decide +kernel) rfl, TT_of (i := 92) (by decide +kernel) rfl, ⟨by decide +kernel, by decide +kernel⟩, by decide +kernel⟩
theorem iv_X11_rest : Cond.instanceMethod mX11_rest.1 ∈ TT ∧ Cond.selects mX11_rest.1.cls mX11_rest.1 mX11_rest.1 ∈ TT := ⟨TT_of (i := 1459) (by decide +kernel) rfl, TT_of (i := 1460) (by decide +kernel) rfl⟩
abbrev mX5_weigh : MI := (yX5_weigh, cX5_weigh, 5, none)
theorem ml_X5_weigh : ML mX5_weigh 2 := ⟨TT_of (i := 1465) (by decide +kernel) rfl, TT_of (i := 103) (by decide +kernel) rfl, ⟨by decide +kernel, by decide +kernel⟩, by decide +kernel⟩
theorem iv_X5_weigh : Cond.instanceMethod mX5_weigh.1 ∈ TT ∧ Cond.selects mX5_weigh.1.cls mX5_weigh.1 mX5_weigh.1 ∈ TT := ⟨TT_of (i := 1463) (by decide +kernel) rfl, TT_of (i := 1464) (by decide +kernel) rfl⟩
abbrev mX5_worstOfSeated : MI := (yX5_worstOfSeated, cX5_worstOfSeated, 6, some .int)
theorem ml_X5_worstOfSeated : ML mX5_worstOfSeated 2 := ⟨TT_of (i := 1470) (by decide +kernel) rfl, TT_of (i := 103) (by decide +kernel) rfl, ⟨by decide +kernel, by decide +kernel⟩, by decide +kernel⟩
theorem iv_X5_worstOfSeated : Cond.instanceMethod mX5_worstOfSeated.1 ∈ TT ∧ Cond.selects mX5_worstOfSeated.1.cls mX5_worstOfSeated.1 mX5_worstOfSeated.1 ∈ TT := ⟨TT_of (i := 1469) (by decide +kernel) rfl, TT_of (i := 38) (by decide +kernel) rfl⟩
abbrev mX11_season : MI := (yX11_season, cX11_season, 12, some .int)
theorem ml_X11_season : ML mX11_season 5 := ⟨TT_of (i := 1484) (by decide +kernel) rfl, TT_of (i := 92) (by decide +kernel) rfl, ⟨by decide +kernel, by decide +kernel⟩, by decide +kernel⟩
theorem iv_X11_season : Cond.instanceMethod mX11_season.1 ∈ TT ∧ Cond.selects mX11_season.1.cls mX11_season.1 mX11_season.1 ∈ TT := ⟨TT_of (i := 1482) (by decide +kernel) rfl, TT_of (i := 1483) (by decide +kernel) rfl⟩
abbrev mX1_rateHolding : MI := (yX1_rateHolding, cX1_rateHolding, 4, some .int)
theorem ml_X1_rateHolding : ML mX1_rateHolding 1 := ⟨TT_of (i := 1489) (by decide +kernel) rfl, TT_of (i := 97) (by decide +kernel) rfl, ⟨by decide +kernel, by decide +kernel⟩, by decide +kernel⟩
theorem iv_X1_rateHolding : Cond.instanceMethod mX1_rateHolding.1 ∈ TT ∧ Cond.selects mX1_rateHolding.1.cls mX1_rateHolding.1 mX1_rateHolding.1 ∈ TT := ⟨TT_of (i := 1487) (by decide +kernel) rfl, TT_of (i := 1488) (by decide +kernel) rfl⟩
abbrev mX12_thrown : MI := (yX12_thrown, cX12_thrown, 1, some .int)
theorem ml_X12_thrown : ML mX12_thrown 0 := ⟨TT_of (i := 1493) (by decide +kernel) rfl, TT_of (i := 104) (by decide +kernel) rfl, ⟨by decide +kernel, by decide +kernel⟩, by decide +kernel⟩
theorem iv_X12_thrown : Cond.instanceMethod mX12_thrown.1 ∈ TT ∧ Cond.selects mX12_thrown.1.cls mX12_thrown.1 mX12_thrown.1 ∈ TT := ⟨TT_of (i := 1491) (by decide +kernel) rfl, TT_of (i := 1492) (by decide +kernel) rfl⟩
abbrev mX12_init : MI := (yX12_init, cX12_init, 1, none)
theorem ml_X12_init : ML mX12_init 0 := ⟨TT_of (i := 1498) (by decide +kernel) rfl, TT_of (i := 104) (by decide +kernel) rfl, ⟨by decide +kernel, by decide +kernel⟩, by decide +kernel⟩
theorem ic_X12_init : Cond.instanceMethod yX12_init ∈ TT := TT_of (i := 1497) (by decide +kernel) rfl
abbrev mX12_image : MI := (yX12_image, cX12_image, 2, none)
theorem ml_X12_image : ML mX12_image 0 := ⟨TT_of (i := 1614) (by decide +kernel) rfl, TT_of (i := 104) (by decide +kernel) rfl, ⟨by decide +kernel, by decide +kernel⟩, by decide +kernel⟩
theorem iv_X12_image : Cond.instanceMethod mX12_image.1 ∈ TT ∧ Cond.selects mX12_image.1.cls mX12_image.1 mX12_image.1 ∈ TT := ⟨TT_of (i := 1612) (by decide +kernel) rfl, TT_of (i := 1613) (by decide +kernel) rfl⟩
abbrev mX12_back : MI := (yX12_back, cX12_back, 2, some .boolean)
theorem ml_X12_back : ML mX12_back 0 := ⟨TT_of (i := 1618) (by decide +kernel) rfl, TT_of (i := 104) (by decide +kernel) rfl, ⟨by decide +kernel, by decide +kernel⟩, by decide +kernel⟩
theorem iv_X12_back : Cond.instanceMethod mX12_back.1 ∈ TT ∧ Cond.selects mX12_back.1.cls mX12_back.1 mX12_back.1 ∈ TT := ⟨TT_of (i := 1616) (by decide +kernel) rfl, TT_of (i := 1617) (by decide +kernel) rfl⟩
abbrev mX12_feed : MI := (yX12_feed, cX12_feed, 7, some .int)
theorem ml_X12_feed : ML mX12_feed 5 := ⟨TT_of (i := 1622) (by decide +kernel) rfl, TT_of (i := 104) (by decide +kernel) rfl, ⟨by decide +kernel, by decide +kernel⟩, by decide +kernel⟩
theorem iv_X12_feed : Cond.instanceMethod mX12_feed.1 ∈ TT ∧ Cond.selects mX12_feed.1.cls mX12_feed.1 mX12_feed.1 ∈ TT := ⟨TT_of (i := 1620) (by decide +kernel) rfl, TT_of (i := 1621) (by decide +kernel) rfl⟩
abbrev mX12_end : MI := (yX12_end, cX12_end, 2, some .boolean)
theorem ml_X12_end : ML mX12_end 1 := ⟨TT_of (i := 1626) (by decide +kernel) rfl, TT_of (i := 104) (by decide +kernel) rfl, ⟨by decide +kernel, by decide +kernel⟩, by decide +kernel⟩
theorem iv_X12_end : Cond.instanceMethod mX12_end.1 ∈ TT ∧ Cond.selects mX12_end.1.cls mX12_end.1 mX12_end.1 ∈ TT := ⟨TT_of (i := 1624) (by decide +kernel) rfl, TT_of (i := 1625) (by decide +kernel) rfl⟩
abbrev mX12_fault : MI := (yX12_fault, cX12_fault, 1, some .int)
theorem ml_X12_fault : ML mX12_fault 0 := ⟨TT_of (i := 1630) (by decide +kernel) rfl, TT_of (i := 104) (by decide +kernel) rfl, ⟨by decide +kernel, by decide +kernel⟩, by decide +kernel⟩
theorem iv_X12_fault : Cond.instanceMethod mX12_fault.1 ∈ TT ∧ Cond.selects mX12_fault.1.cls mX12_fault.1 mX12_fault.1 ∈ TT := ⟨TT_of (i := 1628) (by decide +kernel) rfl, TT_of (i := 1629) (by decide +kernel) rfl⟩
abbrev mX12_game : MI := (yX12_game, cX12_game, 5, some .int)
theorem ml_X12_game : ML mX12_game 0 := ⟨TT_of (i := 1634) (by decide +kernel) rfl, TT_of (i := 104) (by decide +kernel) rfl, ⟨by decide +kernel, by decide +kernel⟩, by decide +kernel⟩
theorem iv_X12_game : Cond.instanceMethod mX12_game.1 ∈ TT ∧ Cond.selects mX12_game.1.cls mX12_game.1 mX12_game.1 ∈ TT := ⟨TT_of (i := 1632) (by decide +kernel) rfl, TT_of (i := 1633) (by decide +kernel) rfl⟩
abbrev mX12_reads : MI := (yX12_reads, cX12_reads, 5, some .boolean)
theorem ml_X12_reads : ML mX12_reads 1 := ⟨TT_of (i := 1638) (by decide +kernel) rfl, TT_of (i := 104) (by decide +kernel) rfl, ⟨by decide +kernel, by decide +kernel⟩, by decide +kernel⟩
theorem iv_X12_reads : Cond.instanceMethod mX12_reads.1 ∈ TT ∧ Cond.selects mX12_reads.1.cls mX12_reads.1 mX12_reads.1 ∈ TT := ⟨TT_of (i := 1637) (by decide +kernel) rfl, TT_of (i := 39) (by decide +kernel) rfl⟩
abbrev mX12_blanks : MI := (yX12_blanks, cX12_blanks, 1, none)
theorem ml_X12_blanks : ML mX12_blanks 0 := ⟨TT_of (i := 1642) (by decide +kernel) rfl, TT_of (i := 104) (by decide +kernel) rfl, ⟨by decide +kernel, by decide +kernel⟩, by decide +kernel⟩
theorem iv_X12_blanks : Cond.instanceMethod mX12_blanks.1 ∈ TT ∧ Cond.selects mX12_blanks.1.cls mX12_blanks.1 mX12_blanks.1 ∈ TT := ⟨TT_of (i := 1641) (by decide +kernel) rfl, TT_of (i := 40) (by decide +kernel) rfl⟩
abbrev mX12_isAt : MI := (yX12_isAt, cX12_isAt, 3, some .boolean)
theorem ml_X12_isAt : ML mX12_isAt 2 := ⟨TT_of (i := 1646) (by decide +kernel) rfl, TT_of (i := 104) (by decide +kernel) rfl, ⟨by decide +kernel, by decide +kernel⟩, by decide +kernel⟩
theorem iv_X12_isAt : Cond.instanceMethod mX12_isAt.1 ∈ TT ∧ Cond.selects mX12_isAt.1.cls mX12_isAt.1 mX12_isAt.1 ∈ TT := ⟨TT_of (i := 1645) (by decide +kernel) rfl, TT_of (i := 41) (by decide +kernel) rfl⟩
abbrev mX12_readLine : MI := (yX12_readLine, cX12_readLine, 4, some .boolean)
theorem ml_X12_readLine : ML mX12_readLine 1 := ⟨TT_of (i := 1650) (by decide +kernel) rfl, TT_of (i := 104) (by decide +kernel) rfl, ⟨by decide +kernel, by decide +kernel⟩, by decide +kernel⟩
theorem iv_X12_readLine : Cond.instanceMethod mX12_readLine.1 ∈ TT ∧ Cond.selects mX12_readLine.1.cls mX12_readLine.1 mX12_readLine.1 ∈ TT := ⟨TT_of (i := 1649) (by decide +kernel) rfl, TT_of (i := 42) (by decide +kernel) rfl⟩
abbrev mX12_letters : MI := (yX12_letters, cX12_letters, 1, none)
theorem ml_X12_letters : ML mX12_letters 0 := ⟨TT_of (i := 1654) (by decide +kernel) rfl, TT_of (i := 104) (by decide +kernel) rfl, ⟨by decide +kernel, by decide +kernel⟩, by decide +kernel⟩
theorem iv_X12_letters : Cond.instanceMethod mX12_letters.1 ∈ TT ∧ Cond.selects mX12_letters.1.cls mX12_letters.1 mX12_letters.1 ∈ TT := ⟨TT_of (i := 1653) (by decide +kernel) rfl, TT_of (i := 43) (by decide +kernel) rfl⟩
abbrev mX12_lineAt : MI := (yX12_lineAt, cX12_lineAt, 2, some .int)
theorem ml_X12_lineAt : ML mX12_lineAt 2 := ⟨TT_of (i := 1657) (by decide +kernel) rfl, TT_of (i := 104) (by decide +kernel) rfl, ⟨by decide +kernel, by decide +kernel⟩, by decide +kernel⟩
theorem st_X12_lineAt : Cond.static yX12_lineAt ∈ TT := TT_of (i := 1656) (by decide +kernel) rfl
abbrev mX12_textAt : MI := (yX12_textAt, cX12_textAt, 1, some .int)
theorem ml_X12_textAt : ML mX12_textAt 1 := ⟨TT_of (i := 1660) (by decide +kernel) rfl, TT_of (i := 104) (by decide +kernel) rfl, ⟨by decide +kernel, by decide +kernel⟩, by decide +kernel⟩
theorem st_X12_textAt : Cond.static yX12_textAt ∈ TT := TT_of (i := 1659) (by decide +kernel) rfl
abbrev mX12_readGameLine : MI := (yX12_readGameLine, cX12_readGameLine, 4, some .boolean)
theorem ml_X12_readGameLine : ML mX12_readGameLine 0 := ⟨TT_of (i := 1664) (by decide +kernel) rfl, TT_of (i := 104) (by decide +kernel) rfl, ⟨by decide +kernel, by decide +kernel⟩, by decide +kernel⟩
theorem iv_X12_readGameLine : Cond.instanceMethod mX12_readGameLine.1 ∈ TT ∧ Cond.selects mX12_readGameLine.1.cls mX12_readGameLine.1 mX12_readGameLine.1 ∈ TT := ⟨TT_of (i := 1663) (by decide +kernel) rfl, TT_of (i := 44) (by decide +kernel) rfl⟩
abbrev mX12_isWord : MI := (yX12_isWord, cX12_isWord, 4, some .boolean)
theorem ml_X12_isWord : ML mX12_isWord 1 := ⟨TT_of (i := 1669) (by decide +kernel) rfl, TT_of (i := 104) (by decide +kernel) rfl, ⟨by decide +kernel, by decide +kernel⟩, by decide +kernel⟩
theorem iv_X12_isWord : Cond.instanceMethod mX12_isWord.1 ∈ TT ∧ Cond.selects mX12_isWord.1.cls mX12_isWord.1 mX12_isWord.1 ∈ TT := ⟨TT_of (i := 1668) (by decide +kernel) rfl, TT_of (i := 45) (by decide +kernel) rfl⟩
abbrev mX12_number : MI := (yX12_number, cX12_number, 3, some .int)
theorem ml_X12_number : ML mX12_number 1 := ⟨TT_of (i := 1675) (by decide +kernel) rfl, TT_of (i := 104) (by decide +kernel) rfl, ⟨by decide +kernel, by decide +kernel⟩, by decide +kernel⟩
theorem iv_X12_number : Cond.instanceMethod mX12_number.1 ∈ TT ∧ Cond.selects mX12_number.1.cls mX12_number.1 mX12_number.1 ∈ TT := ⟨TT_of (i := 1674) (by decide +kernel) rfl, TT_of (i := 46) (by decide +kernel) rfl⟩
abbrev mX12_readState : MI := (yX12_readState, cX12_readState, 3, some .int)
theorem ml_X12_readState : ML mX12_readState 0 := ⟨TT_of (i := 1681) (by decide +kernel) rfl, TT_of (i := 104) (by decide +kernel) rfl, ⟨by decide +kernel, by decide +kernel⟩, by decide +kernel⟩
theorem iv_X12_readState : Cond.instanceMethod mX12_readState.1 ∈ TT ∧ Cond.selects mX12_readState.1.cls mX12_readState.1 mX12_readState.1 ∈ TT := ⟨TT_of (i := 1680) (by decide +kernel) rfl, TT_of (i := 47) (by decide +kernel) rfl⟩
abbrev mX12_readGoalsLine : MI := (yX12_readGoalsLine, cX12_readGoalsLine, 2, some .boolean)
theorem ml_X12_readGoalsLine : ML mX12_readGoalsLine 1 := ⟨TT_of (i := 1688) (by decide +kernel) rfl, TT_of (i := 104) (by decide +kernel) rfl, ⟨by decide +kernel, by decide +kernel⟩, by decide +kernel⟩
theorem iv_X12_readGoalsLine : Cond.instanceMethod mX12_readGoalsLine.1 ∈ TT ∧ Cond.selects mX12_readGoalsLine.1.cls mX12_readGoalsLine.1 mX12_readGoalsLine.1 ∈ TT := ⟨TT_of (i := 1687) (by decide +kernel) rfl, TT_of (i := 48) (by decide +kernel) rfl⟩
abbrev mX12_keepsAt : MI := (yX12_keepsAt, cX12_keepsAt, 3, some .boolean)
theorem ml_X12_keepsAt : ML mX12_keepsAt 2 := ⟨TT_of (i := 1694) (by decide +kernel) rfl, TT_of (i := 104) (by decide +kernel) rfl, ⟨by decide +kernel, by decide +kernel⟩, by decide +kernel⟩
theorem iv_X12_keepsAt : Cond.instanceMethod mX12_keepsAt.1 ∈ TT ∧ Cond.selects mX12_keepsAt.1.cls mX12_keepsAt.1 mX12_keepsAt.1 ∈ TT := ⟨TT_of (i := 1693) (by decide +kernel) rfl, TT_of (i := 49) (by decide +kernel) rfl⟩
abbrev mX12_sign : MI := (yX12_sign, cX12_sign, 2, some .boolean)
theorem ml_X12_sign : ML mX12_sign 1 := ⟨TT_of (i := 1698) (by decide +kernel) rfl, TT_of (i := 104) (by decide +kernel) rfl, ⟨by decide +kernel, by decide +kernel⟩, by decide +kernel⟩
theorem iv_X12_sign : Cond.instanceMethod mX12_sign.1 ∈ TT ∧ Cond.selects mX12_sign.1.cls mX12_sign.1 mX12_sign.1 ∈ TT := ⟨TT_of (i := 1697) (by decide +kernel) rfl, TT_of (i := 50) (by decide +kernel) rfl⟩
abbrev mX12_factAt : MI := (yX12_factAt, cX12_factAt, 2, some .int)
theorem ml_X12_factAt : ML mX12_factAt 0 := ⟨TT_of (i := 1702) (by decide +kernel) rfl, TT_of (i := 104) (by decide +kernel) rfl, ⟨by decide +kernel, by decide +kernel⟩, by decide +kernel⟩
theorem iv_X12_factAt : Cond.instanceMethod mX12_factAt.1 ∈ TT ∧ Cond.selects mX12_factAt.1.cls mX12_factAt.1 mX12_factAt.1 ∈ TT := ⟨TT_of (i := 1701) (by decide +kernel) rfl, TT_of (i := 51) (by decide +kernel) rfl⟩
abbrev mX12_passes : MI := (yX12_passes, cX12_passes, 2, some .boolean)
theorem ml_X12_passes : ML mX12_passes 1 := ⟨TT_of (i := 1713) (by decide +kernel) rfl, TT_of (i := 104) (by decide +kernel) rfl, ⟨by decide +kernel, by decide +kernel⟩, by decide +kernel⟩
theorem iv_X12_passes : Cond.instanceMethod mX12_passes.1 ∈ TT ∧ Cond.selects mX12_passes.1.cls mX12_passes.1 mX12_passes.1 ∈ TT := ⟨TT_of (i := 1712) (by decide +kernel) rfl, TT_of (i := 52) (by decide +kernel) rfl⟩
abbrev mX12_readCond : MI := (yX12_readCond, cX12_readCond, 1, some .boolean)
theorem ml_X12_readCond : ML mX12_readCond 0 := ⟨TT_of (i := 1717) (by decide +kernel) rfl, TT_of (i := 104) (by decide +kernel) rfl, ⟨by decide +kernel, by decide +kernel⟩, by decide +kernel⟩
theorem iv_X12_readCond : Cond.instanceMethod mX12_readCond.1 ∈ TT ∧ Cond.selects mX12_readCond.1.cls mX12_readCond.1 mX12_readCond.1 ∈ TT := ⟨TT_of (i := 1716) (by decide +kernel) rfl, TT_of (i := 53) (by decide +kernel) rfl⟩
abbrev mX12_readAllOf : MI := (yX12_readAllOf, cX12_readAllOf, 1, some .boolean)
theorem ml_X12_readAllOf : ML mX12_readAllOf 0 := ⟨TT_of (i := 1721) (by decide +kernel) rfl, TT_of (i := 104) (by decide +kernel) rfl, ⟨by decide +kernel, by decide +kernel⟩, by decide +kernel⟩
theorem iv_X12_readAllOf : Cond.instanceMethod mX12_readAllOf.1 ∈ TT ∧ Cond.selects mX12_readAllOf.1.cls mX12_readAllOf.1 mX12_readAllOf.1 ∈ TT := ⟨TT_of (i := 1720) (by decide +kernel) rfl, TT_of (i := 54) (by decide +kernel) rfl⟩
abbrev mX12_readAtom : MI := (yX12_readAtom, cX12_readAtom, 2, some .boolean)
theorem ml_X12_readAtom : ML mX12_readAtom 0 := ⟨TT_of (i := 1725) (by decide +kernel) rfl, TT_of (i := 104) (by decide +kernel) rfl, ⟨by decide +kernel, by decide +kernel⟩, by decide +kernel⟩
theorem iv_X12_readAtom : Cond.instanceMethod mX12_readAtom.1 ∈ TT ∧ Cond.selects mX12_readAtom.1.cls mX12_readAtom.1 mX12_readAtom.1 ∈ TT := ⟨TT_of (i := 1724) (by decide +kernel) rfl, TT_of (i := 55) (by decide +kernel) rfl⟩
abbrev mX12_emits : MI := (yX12_emits, cX12_emits, 4, none)
theorem ml_X12_emits : ML mX12_emits 2 := ⟨TT_of (i := 1730) (by decide +kernel) rfl, TT_of (i := 104) (by decide +kernel) rfl, ⟨by decide +kernel, by decide +kernel⟩, by decide +kernel⟩
theorem iv_X12_emits : Cond.instanceMethod mX12_emits.1 ∈ TT ∧ Cond.selects mX12_emits.1.cls mX12_emits.1 mX12_emits.1 ∈ TT := ⟨TT_of (i := 1729) (by decide +kernel) rfl, TT_of (i := 56) (by decide +kernel) rfl⟩
abbrev mX12_readSum : MI := (yX12_readSum, cX12_readSum, 1, some .boolean)
theorem ml_X12_readSum : ML mX12_readSum 0 := ⟨TT_of (i := 1735) (by decide +kernel) rfl, TT_of (i := 104) (by decide +kernel) rfl, ⟨by decide +kernel, by decide +kernel⟩, by decide +kernel⟩
theorem iv_X12_readSum : Cond.instanceMethod mX12_readSum.1 ∈ TT ∧ Cond.selects mX12_readSum.1.cls mX12_readSum.1 mX12_readSum.1 ∈ TT := ⟨TT_of (i := 1734) (by decide +kernel) rfl, TT_of (i := 57) (by decide +kernel) rfl⟩
abbrev mX12_readPart : MI := (yX12_readPart, cX12_readPart, 2, some .boolean)
theorem ml_X12_readPart : ML mX12_readPart 0 := ⟨TT_of (i := 1739) (by decide +kernel) rfl, TT_of (i := 104) (by decide +kernel) rfl, ⟨by decide +kernel, by decide +kernel⟩, by decide +kernel⟩
theorem iv_X12_readPart : Cond.instanceMethod mX12_readPart.1 ∈ TT ∧ Cond.selects mX12_readPart.1.cls mX12_readPart.1 mX12_readPart.1 ∈ TT := ⟨TT_of (i := 1738) (by decide +kernel) rfl, TT_of (i := 58) (by decide +kernel) rfl⟩
abbrev mX12_readRuleLine : MI := (yX12_readRuleLine, cX12_readRuleLine, 2, some .boolean)
theorem ml_X12_readRuleLine : ML mX12_readRuleLine 1 := ⟨TT_of (i := 1745) (by decide +kernel) rfl, TT_of (i := 104) (by decide +kernel) rfl, ⟨by decide +kernel, by decide +kernel⟩, by decide +kernel⟩
theorem iv_X12_readRuleLine : Cond.instanceMethod mX12_readRuleLine.1 ∈ TT ∧ Cond.selects mX12_readRuleLine.1.cls mX12_readRuleLine.1 mX12_readRuleLine.1 ∈ TT := ⟨TT_of (i := 1744) (by decide +kernel) rfl, TT_of (i := 59) (by decide +kernel) rfl⟩
abbrev mX12_hasIf : MI := (yX12_hasIf, cX12_hasIf, 1, some .boolean)
theorem ml_X12_hasIf : ML mX12_hasIf 0 := ⟨TT_of (i := 1752) (by decide +kernel) rfl, TT_of (i := 104) (by decide +kernel) rfl, ⟨by decide +kernel, by decide +kernel⟩, by decide +kernel⟩
theorem iv_X12_hasIf : Cond.instanceMethod mX12_hasIf.1 ∈ TT ∧ Cond.selects mX12_hasIf.1.cls mX12_hasIf.1 mX12_hasIf.1 ∈ TT := ⟨TT_of (i := 1751) (by decide +kernel) rfl, TT_of (i := 60) (by decide +kernel) rfl⟩
abbrev mX12_throwsIf : MI := (yX12_throwsIf, cX12_throwsIf, 3, some .boolean)
theorem ml_X12_throwsIf : ML mX12_throwsIf 2 := ⟨TT_of (i := 1756) (by decide +kernel) rfl, TT_of (i := 104) (by decide +kernel) rfl, ⟨by decide +kernel, by decide +kernel⟩, by decide +kernel⟩
theorem iv_X12_throwsIf : Cond.instanceMethod mX12_throwsIf.1 ∈ TT ∧ Cond.selects mX12_throwsIf.1.cls mX12_throwsIf.1 mX12_throwsIf.1 ∈ TT := ⟨TT_of (i := 1755) (by decide +kernel) rfl, TT_of (i := 61) (by decide +kernel) rfl⟩
abbrev mX12_goals : MI := (yX12_goals, cX12_goals, 1, some .int)
theorem ml_X12_goals : ML mX12_goals 0 := ⟨TT_of (i := 1760) (by decide +kernel) rfl, TT_of (i := 104) (by decide +kernel) rfl, ⟨by decide +kernel, by decide +kernel⟩, by decide +kernel⟩
theorem iv_X12_goals : Cond.instanceMethod mX12_goals.1 ∈ TT ∧ Cond.selects mX12_goals.1.cls mX12_goals.1 mX12_goals.1 ∈ TT := ⟨TT_of (i := 1758) (by decide +kernel) rfl, TT_of (i := 1759) (by decide +kernel) rfl⟩
abbrev mX12_keeps : MI := (yX12_keeps, cX12_keeps, 3, none)
theorem ml_X12_keeps : ML mX12_keeps 1 := ⟨TT_of (i := 1764) (by decide +kernel) rfl, TT_of (i := 104) (by decide +kernel) rfl, ⟨by decide +kernel, by decide +kernel⟩, by decide +kernel⟩
theorem iv_X12_keeps : Cond.instanceMethod mX12_keeps.1 ∈ TT ∧ Cond.selects mX12_keeps.1.cls mX12_keeps.1 mX12_keeps.1 ∈ TT := ⟨TT_of (i := 1763) (by decide +kernel) rfl, TT_of (i := 62) (by decide +kernel) rfl⟩
abbrev mX12_rule : MI := (yX12_rule, cX12_rule, 1, some .int)
theorem ml_X12_rule : ML mX12_rule 0 := ⟨TT_of (i := 1768) (by decide +kernel) rfl, TT_of (i := 104) (by decide +kernel) rfl, ⟨by decide +kernel, by decide +kernel⟩, by decide +kernel⟩
theorem iv_X12_rule : Cond.instanceMethod mX12_rule.1 ∈ TT ∧ Cond.selects mX12_rule.1.cls mX12_rule.1 mX12_rule.1 ∈ TT := ⟨TT_of (i := 1766) (by decide +kernel) rfl, TT_of (i := 1767) (by decide +kernel) rfl⟩
abbrev mX12_follows : MI := (yX12_follows, cX12_follows, 3, some .int)
theorem ml_X12_follows : ML mX12_follows 2 := ⟨TT_of (i := 1772) (by decide +kernel) rfl, TT_of (i := 104) (by decide +kernel) rfl, ⟨by decide +kernel, by decide +kernel⟩, by decide +kernel⟩
theorem iv_X12_follows : Cond.instanceMethod mX12_follows.1 ∈ TT ∧ Cond.selects mX12_follows.1.cls mX12_follows.1 mX12_follows.1 ∈ TT := ⟨TT_of (i := 1770) (by decide +kernel) rfl, TT_of (i := 1771) (by decide +kernel) rfl⟩
abbrev mX12_noState : MI := (yX12_noState, cX12_noState, 1, some .boolean)
theorem ml_X12_noState : ML mX12_noState 1 := ⟨TT_of (i := 1775) (by decide +kernel) rfl, TT_of (i := 104) (by decide +kernel) rfl, ⟨by decide +kernel, by decide +kernel⟩, by decide +kernel⟩
theorem st_X12_noState : Cond.static yX12_noState ∈ TT := TT_of (i := 1774) (by decide +kernel) rfl
abbrev mX12_in : MI := (yX12_in, cX12_in, 3, some .boolean)
theorem ml_X12_in : ML mX12_in 3 := ⟨TT_of (i := 1778) (by decide +kernel) rfl, TT_of (i := 104) (by decide +kernel) rfl, ⟨by decide +kernel, by decide +kernel⟩, by decide +kernel⟩
theorem st_X12_in : Cond.static yX12_in ∈ TT := TT_of (i := 1777) (by decide +kernel) rfl
abbrev mX12_chanceAt : MI := (yX12_chanceAt, cX12_chanceAt, 2, some .int)
theorem ml_X12_chanceAt : ML mX12_chanceAt 2 := ⟨TT_of (i := 1781) (by decide +kernel) rfl, TT_of (i := 104) (by decide +kernel) rfl, ⟨by decide +kernel, by decide +kernel⟩, by decide +kernel⟩
theorem st_X12_chanceAt : Cond.static yX12_chanceAt ∈ TT := TT_of (i := 1780) (by decide +kernel) rfl
abbrev mX12_staying : MI := (yX12_staying, cX12_staying, 4, some .int)
theorem ml_X12_staying : ML mX12_staying 1 := ⟨TT_of (i := 1785) (by decide +kernel) rfl, TT_of (i := 104) (by decide +kernel) rfl, ⟨by decide +kernel, by decide +kernel⟩, by decide +kernel⟩
theorem iv_X12_staying : Cond.instanceMethod mX12_staying.1 ∈ TT ∧ Cond.selects mX12_staying.1.cls mX12_staying.1 mX12_staying.1 ∈ TT := ⟨TT_of (i := 1784) (by decide +kernel) rfl, TT_of (i := 63) (by decide +kernel) rfl⟩
abbrev mX12_kick : MI := (yX12_kick, cX12_kick, 2, some .int)
theorem ml_X12_kick : ML mX12_kick 1 := ⟨TT_of (i := 1789) (by decide +kernel) rfl, TT_of (i := 104) (by decide +kernel) rfl, ⟨by decide +kernel, by decide +kernel⟩, by decide +kernel⟩
theorem iv_X12_kick : Cond.instanceMethod mX12_kick.1 ∈ TT ∧ Cond.selects mX12_kick.1.cls mX12_kick.1 mX12_kick.1 ∈ TT := ⟨TT_of (i := 1787) (by decide +kernel) rfl, TT_of (i := 1788) (by decide +kernel) rfl⟩
abbrev mX12_noZone : MI := (yX12_noZone, cX12_noZone, 1, some .boolean)
theorem ml_X12_noZone : ML mX12_noZone 1 := ⟨TT_of (i := 1792) (by decide +kernel) rfl, TT_of (i := 104) (by decide +kernel) rfl, ⟨by decide +kernel, by decide +kernel⟩, by decide +kernel⟩
theorem st_X12_noZone : Cond.static yX12_noZone ∈ TT := TT_of (i := 1791) (by decide +kernel) rfl
abbrev mX12_now : MI := (yX12_now, cX12_now, 3, none)
theorem ml_X12_now : ML mX12_now 2 := ⟨TT_of (i := 1796) (by decide +kernel) rfl, TT_of (i := 104) (by decide +kernel) rfl, ⟨by decide +kernel, by decide +kernel⟩, by decide +kernel⟩
theorem iv_X12_now : Cond.instanceMethod mX12_now.1 ∈ TT ∧ Cond.selects mX12_now.1.cls mX12_now.1 mX12_now.1 ∈ TT := ⟨TT_of (i := 1794) (by decide +kernel) rfl, TT_of (i := 1795) (by decide +kernel) rfl⟩
abbrev mX12_goal : MI := (yX12_goal, cX12_goal, 1, some .int)
theorem ml_X12_goal : ML mX12_goal 0 := ⟨TT_of (i := 1800) (by decide +kernel) rfl, TT_of (i := 104) (by decide +kernel) rfl, ⟨by decide +kernel, by decide +kernel⟩, by decide +kernel⟩
theorem iv_X12_goal : Cond.instanceMethod mX12_goal.1 ∈ TT ∧ Cond.selects mX12_goal.1.cls mX12_goal.1 mX12_goal.1 ∈ TT := ⟨TT_of (i := 1798) (by decide +kernel) rfl, TT_of (i := 1799) (by decide +kernel) rfl⟩
abbrev mX12_goalIn : MI := (yX12_goalIn, cX12_goalIn, 8, some .int)
theorem ml_X12_goalIn : ML mX12_goalIn 1 := ⟨TT_of (i := 1804) (by decide +kernel) rfl, TT_of (i := 104) (by decide +kernel) rfl, ⟨by decide +kernel, by decide +kernel⟩, by decide +kernel⟩
theorem iv_X12_goalIn : Cond.instanceMethod mX12_goalIn.1 ∈ TT ∧ Cond.selects mX12_goalIn.1.cls mX12_goalIn.1 mX12_goalIn.1 ∈ TT := ⟨TT_of (i := 1803) (by decide +kernel) rfl, TT_of (i := 64) (by decide +kernel) rfl⟩
abbrev mX12_setsFacts : MI := (yX12_setsFacts, cX12_setsFacts, 2, none)
theorem ml_X12_setsFacts : ML mX12_setsFacts 1 := ⟨TT_of (i := 1808) (by decide +kernel) rfl, TT_of (i := 104) (by decide +kernel) rfl, ⟨by decide +kernel, by decide +kernel⟩, by decide +kernel⟩
theorem iv_X12_setsFacts : Cond.instanceMethod mX12_setsFacts.1 ∈ TT ∧ Cond.selects mX12_setsFacts.1.cls mX12_setsFacts.1 mX12_setsFacts.1 ∈ TT := ⟨TT_of (i := 1807) (by decide +kernel) rfl, TT_of (i := 65) (by decide +kernel) rfl⟩
abbrev mX12_lines : MI := (yX12_lines, cX12_lines, 2, some .int)
theorem ml_X12_lines : ML mX12_lines 1 := ⟨TT_of (i := 1813) (by decide +kernel) rfl, TT_of (i := 104) (by decide +kernel) rfl, ⟨by decide +kernel, by decide +kernel⟩, by decide +kernel⟩
theorem iv_X12_lines : Cond.instanceMethod mX12_lines.1 ∈ TT ∧ Cond.selects mX12_lines.1.cls mX12_lines.1 mX12_lines.1 ∈ TT := ⟨TT_of (i := 1812) (by decide +kernel) rfl, TT_of (i := 66) (by decide +kernel) rfl⟩
abbrev mX12_holdsLine : MI := (yX12_holdsLine, cX12_holdsLine, 10, some .boolean)
theorem ml_X12_holdsLine : ML mX12_holdsLine 2 := ⟨TT_of (i := 1817) (by decide +kernel) rfl, TT_of (i := 104) (by decide +kernel) rfl, ⟨by decide +kernel, by decide +kernel⟩, by decide +kernel⟩
theorem iv_X12_holdsLine : Cond.instanceMethod mX12_holdsLine.1 ∈ TT ∧ Cond.selects mX12_holdsLine.1.cls mX12_holdsLine.1 mX12_holdsLine.1 ∈ TT := ⟨TT_of (i := 1816) (by decide +kernel) rfl, TT_of (i := 67) (by decide +kernel) rfl⟩
abbrev mJ9_min_f86c9 : MI := (yJ9_min_f86c9, cJ9_min_f86c9, 4, some .long)
theorem ml_J9_min_f86c9 : ML mJ9_min_f86c9 2 := ⟨TT_of (i := 1821) (by decide +kernel) rfl, TT_of (i := 115) (by decide +kernel) rfl, ⟨by decide +kernel, by decide +kernel⟩, by decide +kernel⟩
theorem st_J9_min_f86c9 : Cond.static yJ9_min_f86c9 ∈ TT := TT_of (i := 1820) (by decide +kernel) rfl
abbrev mJ9_max_f86c9 : MI := (yJ9_max_f86c9, cJ9_max_f86c9, 4, some .long)
theorem ml_J9_max_f86c9 : ML mJ9_max_f86c9 2 := ⟨TT_of (i := 1824) (by decide +kernel) rfl, TT_of (i := 115) (by decide +kernel) rfl, ⟨by decide +kernel, by decide +kernel⟩, by decide +kernel⟩
theorem st_J9_max_f86c9 : Cond.static yJ9_max_f86c9 ∈ TT := TT_of (i := 1823) (by decide +kernel) rfl
abbrev mX12_lost : MI := (yX12_lost, cX12_lost, 2, none)
theorem ml_X12_lost : ML mX12_lost 1 := ⟨TT_of (i := 1828) (by decide +kernel) rfl, TT_of (i := 104) (by decide +kernel) rfl, ⟨by decide +kernel, by decide +kernel⟩, by decide +kernel⟩
theorem iv_X12_lost : Cond.instanceMethod mX12_lost.1 ∈ TT ∧ Cond.selects mX12_lost.1.cls mX12_lost.1 mX12_lost.1 ∈ TT := ⟨TT_of (i := 1826) (by decide +kernel) rfl, TT_of (i := 1827) (by decide +kernel) rfl⟩
abbrev mX12_horizon : MI := (yX12_horizon, cX12_horizon, 2, none)
theorem ml_X12_horizon : ML mX12_horizon 1 := ⟨TT_of (i := 1832) (by decide +kernel) rfl, TT_of (i := 104) (by decide +kernel) rfl, ⟨by decide +kernel, by decide +kernel⟩, by decide +kernel⟩
theorem iv_X12_horizon : Cond.instanceMethod mX12_horizon.1 ∈ TT ∧ Cond.selects mX12_horizon.1.cls mX12_horizon.1 mX12_horizon.1 ∈ TT := ⟨TT_of (i := 1830) (by decide +kernel) rfl, TT_of (i := 1831) (by decide +kernel) rfl⟩
abbrev mX12_grace : MI := (yX12_grace, cX12_grace, 2, none)
theorem ml_X12_grace : ML mX12_grace 1 := ⟨TT_of (i := 1836) (by decide +kernel) rfl, TT_of (i := 104) (by decide +kernel) rfl, ⟨by decide +kernel, by decide +kernel⟩, by decide +kernel⟩
theorem iv_X12_grace : Cond.instanceMethod mX12_grace.1 ∈ TT ∧ Cond.selects mX12_grace.1.cls mX12_grace.1 mX12_grace.1 ∈ TT := ⟨TT_of (i := 1834) (by decide +kernel) rfl, TT_of (i := 1835) (by decide +kernel) rfl⟩
abbrev mX12_sort : MI := (yX12_sort, cX12_sort, 5, some .int)
theorem ml_X12_sort : ML mX12_sort 2 := ⟨TT_of (i := 1840) (by decide +kernel) rfl, TT_of (i := 104) (by decide +kernel) rfl, ⟨by decide +kernel, by decide +kernel⟩, by decide +kernel⟩
theorem iv_X12_sort : Cond.instanceMethod mX12_sort.1 ∈ TT ∧ Cond.selects mX12_sort.1.cls mX12_sort.1 mX12_sort.1 ∈ TT := ⟨TT_of (i := 1838) (by decide +kernel) rfl, TT_of (i := 1839) (by decide +kernel) rfl⟩
abbrev mX12_sortAt : MI := (yX12_sortAt, cX12_sortAt, 2, some .int)
theorem ml_X12_sortAt : ML mX12_sortAt 2 := ⟨TT_of (i := 1843) (by decide +kernel) rfl, TT_of (i := 104) (by decide +kernel) rfl, ⟨by decide +kernel, by decide +kernel⟩, by decide +kernel⟩
theorem st_X12_sortAt : Cond.static yX12_sortAt ∈ TT := TT_of (i := 1842) (by decide +kernel) rfl
abbrev mX12_patience : MI := (yX12_patience, cX12_patience, 2, none)
theorem ml_X12_patience : ML mX12_patience 1 := ⟨TT_of (i := 1847) (by decide +kernel) rfl, TT_of (i := 104) (by decide +kernel) rfl, ⟨by decide +kernel, by decide +kernel⟩, by decide +kernel⟩
theorem iv_X12_patience : Cond.instanceMethod mX12_patience.1 ∈ TT ∧ Cond.selects mX12_patience.1.cls mX12_patience.1 mX12_patience.1 ∈ TT := ⟨TT_of (i := 1845) (by decide +kernel) rfl, TT_of (i := 1846) (by decide +kernel) rfl⟩
abbrev mX12_worth : MI := (yX12_worth, cX12_worth, 3, some .long)
theorem ml_X12_worth : ML mX12_worth 2 := ⟨TT_of (i := 1851) (by decide +kernel) rfl, TT_of (i := 104) (by decide +kernel) rfl, ⟨by decide +kernel, by decide +kernel⟩, by decide +kernel⟩
theorem iv_X12_worth : Cond.instanceMethod mX12_worth.1 ∈ TT ∧ Cond.selects mX12_worth.1.cls mX12_worth.1 mX12_worth.1 ∈ TT := ⟨TT_of (i := 1849) (by decide +kernel) rfl, TT_of (i := 1850) (by decide +kernel) rfl⟩
abbrev mX12_letsOn : MI := (yX12_letsOn, cX12_letsOn, 7, none)
theorem ml_X12_letsOn : ML mX12_letsOn 1 := ⟨TT_of (i := 1855) (by decide +kernel) rfl, TT_of (i := 104) (by decide +kernel) rfl, ⟨by decide +kernel, by decide +kernel⟩, by decide +kernel⟩
theorem iv_X12_letsOn : Cond.instanceMethod mX12_letsOn.1 ∈ TT ∧ Cond.selects mX12_letsOn.1.cls mX12_letsOn.1 mX12_letsOn.1 ∈ TT := ⟨TT_of (i := 1854) (by decide +kernel) rfl, TT_of (i := 68) (by decide +kernel) rfl⟩
abbrev mX12_stop : MI := (yX12_stop, cX12_stop, 4, some .int)
theorem ml_X12_stop : ML mX12_stop 3 := ⟨TT_of (i := 1861) (by decide +kernel) rfl, TT_of (i := 104) (by decide +kernel) rfl, ⟨by decide +kernel, by decide +kernel⟩, by decide +kernel⟩
theorem iv_X12_stop : Cond.instanceMethod mX12_stop.1 ∈ TT ∧ Cond.selects mX12_stop.1.cls mX12_stop.1 mX12_stop.1 ∈ TT := ⟨TT_of (i := 1859) (by decide +kernel) rfl, TT_of (i := 1860) (by decide +kernel) rfl⟩
abbrev mX12_noSort : MI := (yX12_noSort, cX12_noSort, 2, some .boolean)
theorem ml_X12_noSort : ML mX12_noSort 1 := ⟨TT_of (i := 1865) (by decide +kernel) rfl, TT_of (i := 104) (by decide +kernel) rfl, ⟨by decide +kernel, by decide +kernel⟩, by decide +kernel⟩
theorem iv_X12_noSort : Cond.instanceMethod mX12_noSort.1 ∈ TT ∧ Cond.selects mX12_noSort.1.cls mX12_noSort.1 mX12_noSort.1 ∈ TT := ⟨TT_of (i := 1864) (by decide +kernel) rfl, TT_of (i := 69) (by decide +kernel) rfl⟩
abbrev mX12_toldCard : MI := (yX12_toldCard, cX12_toldCard, 2, some .int)
theorem ml_X12_toldCard : ML mX12_toldCard 1 := ⟨TT_of (i := 1869) (by decide +kernel) rfl, TT_of (i := 104) (by decide +kernel) rfl, ⟨by decide +kernel, by decide +kernel⟩, by decide +kernel⟩
theorem iv_X12_toldCard : Cond.instanceMethod mX12_toldCard.1 ∈ TT ∧ Cond.selects mX12_toldCard.1.cls mX12_toldCard.1 mX12_toldCard.1 ∈ TT := ⟨TT_of (i := 1868) (by decide +kernel) rfl, TT_of (i := 70) (by decide +kernel) rfl⟩
abbrev mX12_fouls : MI := (yX12_fouls, cX12_fouls, 5, none)
theorem ml_X12_fouls : ML mX12_fouls 3 := ⟨TT_of (i := 1873) (by decide +kernel) rfl, TT_of (i := 104) (by decide +kernel) rfl, ⟨by decide +kernel, by decide +kernel⟩, by decide +kernel⟩
theorem iv_X12_fouls : Cond.instanceMethod mX12_fouls.1 ∈ TT ∧ Cond.selects mX12_fouls.1.cls mX12_fouls.1 mX12_fouls.1 ∈ TT := ⟨TT_of (i := 1872) (by decide +kernel) rfl, TT_of (i := 71) (by decide +kernel) rfl⟩
abbrev mX12_cardOf : MI := (yX12_cardOf, cX12_cardOf, 3, some .int)
theorem ml_X12_cardOf : ML mX12_cardOf 2 := ⟨TT_of (i := 1877) (by decide +kernel) rfl, TT_of (i := 104) (by decide +kernel) rfl, ⟨by decide +kernel, by decide +kernel⟩, by decide +kernel⟩
theorem iv_X12_cardOf : Cond.instanceMethod mX12_cardOf.1 ∈ TT ∧ Cond.selects mX12_cardOf.1.cls mX12_cardOf.1 mX12_cardOf.1 ∈ TT := ⟨TT_of (i := 1876) (by decide +kernel) rfl, TT_of (i := 72) (by decide +kernel) rfl⟩
abbrev mX12_rates : MI := (yX12_rates, cX12_rates, 4, some .int)
theorem ml_X12_rates : ML mX12_rates 1 := ⟨TT_of (i := 1881) (by decide +kernel) rfl, TT_of (i := 104) (by decide +kernel) rfl, ⟨by decide +kernel, by decide +kernel⟩, by decide +kernel⟩
theorem iv_X12_rates : Cond.instanceMethod mX12_rates.1 ∈ TT ∧ Cond.selects mX12_rates.1.cls mX12_rates.1 mX12_rates.1 ∈ TT := ⟨TT_of (i := 1880) (by decide +kernel) rfl, TT_of (i := 73) (by decide +kernel) rfl⟩
abbrev mX12_judge : MI := (yX12_judge, cX12_judge, 7, some .long)
theorem ml_X12_judge : ML mX12_judge 6 := ⟨TT_of (i := 1885) (by decide +kernel) rfl, TT_of (i := 104) (by decide +kernel) rfl, ⟨by decide +kernel, by decide +kernel⟩, by decide +kernel⟩
theorem iv_X12_judge : Cond.instanceMethod mX12_judge.1 ∈ TT ∧ Cond.selects mX12_judge.1.cls mX12_judge.1 mX12_judge.1 ∈ TT := ⟨TT_of (i := 1883) (by decide +kernel) rfl, TT_of (i := 1884) (by decide +kernel) rfl⟩
abbrev mX12_isNoFoul : MI := (yX12_isNoFoul, cX12_isNoFoul, 4, some .boolean)
theorem ml_X12_isNoFoul : ML mX12_isNoFoul 3 := ⟨TT_of (i := 1889) (by decide +kernel) rfl, TT_of (i := 104) (by decide +kernel) rfl, ⟨by decide +kernel, by decide +kernel⟩, by decide +kernel⟩
theorem iv_X12_isNoFoul : Cond.instanceMethod mX12_isNoFoul.1 ∈ TT ∧ Cond.selects mX12_isNoFoul.1.cls mX12_isNoFoul.1 mX12_isNoFoul.1 ∈ TT := ⟨TT_of (i := 1888) (by decide +kernel) rfl, TT_of (i := 74) (by decide +kernel) rfl⟩
abbrev mX12_noJudge : MI := (yX12_noJudge, cX12_noJudge, 2, some .boolean)
theorem ml_X12_noJudge : ML mX12_noJudge 1 := ⟨TT_of (i := 1893) (by decide +kernel) rfl, TT_of (i := 104) (by decide +kernel) rfl, ⟨by decide +kernel, by decide +kernel⟩, by decide +kernel⟩
theorem iv_X12_noJudge : Cond.instanceMethod mX12_noJudge.1 ∈ TT ∧ Cond.selects mX12_noJudge.1.cls mX12_noJudge.1 mX12_noJudge.1 ∈ TT := ⟨TT_of (i := 1892) (by decide +kernel) rfl, TT_of (i := 75) (by decide +kernel) rfl⟩
abbrev mX12_badBar : MI := (yX12_badBar, cX12_badBar, 3, some .boolean)
theorem ml_X12_badBar : ML mX12_badBar 2 := ⟨TT_of (i := 1897) (by decide +kernel) rfl, TT_of (i := 104) (by decide +kernel) rfl, ⟨by decide +kernel, by decide +kernel⟩, by decide +kernel⟩
theorem iv_X12_badBar : Cond.instanceMethod mX12_badBar.1 ∈ TT ∧ Cond.selects mX12_badBar.1.cls mX12_badBar.1 mX12_badBar.1 ∈ TT := ⟨TT_of (i := 1896) (by decide +kernel) rfl, TT_of (i := 76) (by decide +kernel) rfl⟩
abbrev mX12_asks : MI := (yX12_asks, cX12_asks, 5, none)
theorem ml_X12_asks : ML mX12_asks 4 := ⟨TT_of (i := 1901) (by decide +kernel) rfl, TT_of (i := 104) (by decide +kernel) rfl, ⟨by decide +kernel, by decide +kernel⟩, by decide +kernel⟩
theorem iv_X12_asks : Cond.instanceMethod mX12_asks.1 ∈ TT ∧ Cond.selects mX12_asks.1.cls mX12_asks.1 mX12_asks.1 ∈ TT := ⟨TT_of (i := 1900) (by decide +kernel) rfl, TT_of (i := 77) (by decide +kernel) rfl⟩
abbrev mX12_judges : MI := (yX12_judges, cX12_judges, 12, none)
theorem ml_X12_judges : ML mX12_judges 3 := ⟨TT_of (i := 1905) (by decide +kernel) rfl, TT_of (i := 104) (by decide +kernel) rfl, ⟨by decide +kernel, by decide +kernel⟩, by decide +kernel⟩
theorem iv_X12_judges : Cond.instanceMethod mX12_judges.1 ∈ TT ∧ Cond.selects mX12_judges.1.cls mX12_judges.1 mX12_judges.1 ∈ TT := ⟨TT_of (i := 1904) (by decide +kernel) rfl, TT_of (i := 78) (by decide +kernel) rfl⟩
abbrev mX12_waiting : MI := (yX12_waiting, cX12_waiting, 6, some .long)
theorem ml_X12_waiting : ML mX12_waiting 2 := ⟨TT_of (i := 1909) (by decide +kernel) rfl, TT_of (i := 104) (by decide +kernel) rfl, ⟨by decide +kernel, by decide +kernel⟩, by decide +kernel⟩
theorem iv_X12_waiting : Cond.instanceMethod mX12_waiting.1 ∈ TT ∧ Cond.selects mX12_waiting.1.cls mX12_waiting.1 mX12_waiting.1 ∈ TT := ⟨TT_of (i := 1908) (by decide +kernel) rfl, TT_of (i := 79) (by decide +kernel) rfl⟩
abbrev mX12_says : MI := (yX12_says, cX12_says, 5, some .int)
theorem ml_X12_says : ML mX12_says 3 := ⟨TT_of (i := 1913) (by decide +kernel) rfl, TT_of (i := 104) (by decide +kernel) rfl, ⟨by decide +kernel, by decide +kernel⟩, by decide +kernel⟩
theorem iv_X12_says : Cond.instanceMethod mX12_says.1 ∈ TT ∧ Cond.selects mX12_says.1.cls mX12_says.1 mX12_says.1 ∈ TT := ⟨TT_of (i := 1912) (by decide +kernel) rfl, TT_of (i := 80) (by decide +kernel) rfl⟩
abbrev mX12_does : MI := (yX12_does, cX12_does, 7, some .int)
theorem ml_X12_does : ML mX12_does 6 := ⟨TT_of (i := 1917) (by decide +kernel) rfl, TT_of (i := 104) (by decide +kernel) rfl, ⟨by decide +kernel, by decide +kernel⟩, by decide +kernel⟩
theorem iv_X12_does : Cond.instanceMethod mX12_does.1 ∈ TT ∧ Cond.selects mX12_does.1.cls mX12_does.1 mX12_does.1 ∈ TT := ⟨TT_of (i := 1915) (by decide +kernel) rfl, TT_of (i := 1916) (by decide +kernel) rfl⟩
abbrev mX12_waits : MI := (yX12_waits, cX12_waits, 4, some .long)
theorem ml_X12_waits : ML mX12_waits 3 := ⟨TT_of (i := 1921) (by decide +kernel) rfl, TT_of (i := 104) (by decide +kernel) rfl, ⟨by decide +kernel, by decide +kernel⟩, by decide +kernel⟩
theorem iv_X12_waits : Cond.instanceMethod mX12_waits.1 ∈ TT ∧ Cond.selects mX12_waits.1.cls mX12_waits.1 mX12_waits.1 ∈ TT := ⟨TT_of (i := 1919) (by decide +kernel) rfl, TT_of (i := 1920) (by decide +kernel) rfl⟩
abbrev mX12_bestBy : MI := (yX12_bestBy, cX12_bestBy, 5, some .long)
theorem ml_X12_bestBy : ML mX12_bestBy 4 := ⟨TT_of (i := 1925) (by decide +kernel) rfl, TT_of (i := 104) (by decide +kernel) rfl, ⟨by decide +kernel, by decide +kernel⟩, by decide +kernel⟩
theorem iv_X12_bestBy : Cond.instanceMethod mX12_bestBy.1 ∈ TT ∧ Cond.selects mX12_bestBy.1.cls mX12_bestBy.1 mX12_bestBy.1 ∈ TT := ⟨TT_of (i := 1924) (by decide +kernel) rfl, TT_of (i := 81) (by decide +kernel) rfl⟩
abbrev mX12_enough : MI := (yX12_enough, cX12_enough, 7, some .int)
theorem ml_X12_enough : ML mX12_enough 3 := ⟨TT_of (i := 1929) (by decide +kernel) rfl, TT_of (i := 104) (by decide +kernel) rfl, ⟨by decide +kernel, by decide +kernel⟩, by decide +kernel⟩
theorem iv_X12_enough : Cond.instanceMethod mX12_enough.1 ∈ TT ∧ Cond.selects mX12_enough.1.cls mX12_enough.1 mX12_enough.1 ∈ TT := ⟨TT_of (i := 1927) (by decide +kernel) rfl, TT_of (i := 1928) (by decide +kernel) rfl⟩
abbrev mX12_loses : MI := (yX12_loses, cX12_loses, 6, some .long)
theorem ml_X12_loses : ML mX12_loses 5 := ⟨TT_of (i := 1933) (by decide +kernel) rfl, TT_of (i := 104) (by decide +kernel) rfl, ⟨by decide +kernel, by decide +kernel⟩, by decide +kernel⟩
theorem iv_X12_loses : Cond.instanceMethod mX12_loses.1 ∈ TT ∧ Cond.selects mX12_loses.1.cls mX12_loses.1 mX12_loses.1 ∈ TT := ⟨TT_of (i := 1931) (by decide +kernel) rfl, TT_of (i := 1932) (by decide +kernel) rfl⟩
abbrev mX12_losesAt : MI := (yX12_losesAt, cX12_losesAt, 7, some .long)
theorem ml_X12_losesAt : ML mX12_losesAt 3 := ⟨TT_of (i := 1937) (by decide +kernel) rfl, TT_of (i := 104) (by decide +kernel) rfl, ⟨by decide +kernel, by decide +kernel⟩, by decide +kernel⟩
theorem iv_X12_losesAt : Cond.instanceMethod mX12_losesAt.1 ∈ TT ∧ Cond.selects mX12_losesAt.1.cls mX12_losesAt.1 mX12_losesAt.1 ∈ TT := ⟨TT_of (i := 1936) (by decide +kernel) rfl, TT_of (i := 82) (by decide +kernel) rfl⟩
abbrev mX12_part : MI := (yX12_part, cX12_part, 10, some .int)
theorem ml_X12_part : ML mX12_part 6 := ⟨TT_of (i := 1941) (by decide +kernel) rfl, TT_of (i := 104) (by decide +kernel) rfl, ⟨by decide +kernel, by decide +kernel⟩, by decide +kernel⟩
theorem iv_X12_part : Cond.instanceMethod mX12_part.1 ∈ TT ∧ Cond.selects mX12_part.1.cls mX12_part.1 mX12_part.1 ∈ TT := ⟨TT_of (i := 1939) (by decide +kernel) rfl, TT_of (i := 1940) (by decide +kernel) rfl⟩
abbrev mX12_bar : MI := (yX12_bar, cX12_bar, 9, some .int)
theorem ml_X12_bar : ML mX12_bar 2 := ⟨TT_of (i := 1945) (by decide +kernel) rfl, TT_of (i := 104) (by decide +kernel) rfl, ⟨by decide +kernel, by decide +kernel⟩, by decide +kernel⟩
theorem iv_X12_bar : Cond.instanceMethod mX12_bar.1 ∈ TT ∧ Cond.selects mX12_bar.1.cls mX12_bar.1 mX12_bar.1 ∈ TT := ⟨TT_of (i := 1943) (by decide +kernel) rfl, TT_of (i := 1944) (by decide +kernel) rfl⟩
abbrev mX12_pays : MI := (yX12_pays, cX12_pays, 4, some .int)
theorem ml_X12_pays : ML mX12_pays 3 := ⟨TT_of (i := 1949) (by decide +kernel) rfl, TT_of (i := 104) (by decide +kernel) rfl, ⟨by decide +kernel, by decide +kernel⟩, by decide +kernel⟩
theorem iv_X12_pays : Cond.instanceMethod mX12_pays.1 ∈ TT ∧ Cond.selects mX12_pays.1.cls mX12_pays.1 mX12_pays.1 ∈ TT := ⟨TT_of (i := 1947) (by decide +kernel) rfl, TT_of (i := 1948) (by decide +kernel) rfl⟩
abbrev mX12_paying : MI := (yX12_paying, cX12_paying, 8, some .int)
theorem ml_X12_paying : ML mX12_paying 4 := ⟨TT_of (i := 1953) (by decide +kernel) rfl, TT_of (i := 104) (by decide +kernel) rfl, ⟨by decide +kernel, by decide +kernel⟩, by decide +kernel⟩
theorem iv_X12_paying : Cond.instanceMethod mX12_paying.1 ∈ TT ∧ Cond.selects mX12_paying.1.cls mX12_paying.1 mX12_paying.1 ∈ TT := ⟨TT_of (i := 1952) (by decide +kernel) rfl, TT_of (i := 83) (by decide +kernel) rfl⟩
abbrev mX12_least : MI := (yX12_least, cX12_least, 8, some .int)
theorem ml_X12_least : ML mX12_least 4 := ⟨TT_of (i := 1957) (by decide +kernel) rfl, TT_of (i := 104) (by decide +kernel) rfl, ⟨by decide +kernel, by decide +kernel⟩, by decide +kernel⟩
theorem iv_X12_least : Cond.instanceMethod mX12_least.1 ∈ TT ∧ Cond.selects mX12_least.1.cls mX12_least.1 mX12_least.1 ∈ TT := ⟨TT_of (i := 1955) (by decide +kernel) rfl, TT_of (i := 1956) (by decide +kernel) rfl⟩
abbrev mX12_rate : MI := (yX12_rate, cX12_rate, 5, some .int)
theorem ml_X12_rate : ML mX12_rate 3 := ⟨TT_of (i := 1961) (by decide +kernel) rfl, TT_of (i := 104) (by decide +kernel) rfl, ⟨by decide +kernel, by decide +kernel⟩, by decide +kernel⟩
theorem iv_X12_rate : Cond.instanceMethod mX12_rate.1 ∈ TT ∧ Cond.selects mX12_rate.1.cls mX12_rate.1 mX12_rate.1 ∈ TT := ⟨TT_of (i := 1959) (by decide +kernel) rfl, TT_of (i := 1960) (by decide +kernel) rfl⟩
abbrev mX12_often : MI := (yX12_often, cX12_often, 3, some .int)
theorem ml_X12_often : ML mX12_often 2 := ⟨TT_of (i := 1965) (by decide +kernel) rfl, TT_of (i := 104) (by decide +kernel) rfl, ⟨by decide +kernel, by decide +kernel⟩, by decide +kernel⟩
theorem iv_X12_often : Cond.instanceMethod mX12_often.1 ∈ TT ∧ Cond.selects mX12_often.1.cls mX12_often.1 mX12_often.1 ∈ TT := ⟨TT_of (i := 1963) (by decide +kernel) rfl, TT_of (i := 1964) (by decide +kernel) rfl⟩
abbrev mX12_match : MI := (yX12_match, cX12_match, 7, some .long)
theorem ml_X12_match : ML mX12_match 3 := ⟨TT_of (i := 1969) (by decide +kernel) rfl, TT_of (i := 104) (by decide +kernel) rfl, ⟨by decide +kernel, by decide +kernel⟩, by decide +kernel⟩
theorem iv_X12_match : Cond.instanceMethod mX12_match.1 ∈ TT ∧ Cond.selects mX12_match.1.cls mX12_match.1 mX12_match.1 ∈ TT := ⟨TT_of (i := 1967) (by decide +kernel) rfl, TT_of (i := 1968) (by decide +kernel) rfl⟩
abbrev mX12_matchIn : MI := (yX12_matchIn, cX12_matchIn, 10, some .long)
theorem ml_X12_matchIn : ML mX12_matchIn 4 := ⟨TT_of (i := 1973) (by decide +kernel) rfl, TT_of (i := 104) (by decide +kernel) rfl, ⟨by decide +kernel, by decide +kernel⟩, by decide +kernel⟩
theorem iv_X12_matchIn : Cond.instanceMethod mX12_matchIn.1 ∈ TT ∧ Cond.selects mX12_matchIn.1.cls mX12_matchIn.1 mX12_matchIn.1 ∈ TT := ⟨TT_of (i := 1972) (by decide +kernel) rfl, TT_of (i := 84) (by decide +kernel) rfl⟩
abbrev mX12_learn : MI := (yX12_learn, cX12_learn, 4, some .int)
theorem ml_X12_learn : ML mX12_learn 2 := ⟨TT_of (i := 1978) (by decide +kernel) rfl, TT_of (i := 104) (by decide +kernel) rfl, ⟨by decide +kernel, by decide +kernel⟩, by decide +kernel⟩
theorem iv_X12_learn : Cond.instanceMethod mX12_learn.1 ∈ TT ∧ Cond.selects mX12_learn.1.cls mX12_learn.1 mX12_learn.1 ∈ TT := ⟨TT_of (i := 1976) (by decide +kernel) rfl, TT_of (i := 1977) (by decide +kernel) rfl⟩
abbrev mX12_learns : MI := (yX12_learns, cX12_learns, 10, some .boolean)
theorem ml_X12_learns : ML mX12_learns 2 := ⟨TT_of (i := 1982) (by decide +kernel) rfl, TT_of (i := 104) (by decide +kernel) rfl, ⟨by decide +kernel, by decide +kernel⟩, by decide +kernel⟩
theorem iv_X12_learns : Cond.instanceMethod mX12_learns.1 ∈ TT ∧ Cond.selects mX12_learns.1.cls mX12_learns.1 mX12_learns.1 ∈ TT := ⟨TT_of (i := 1981) (by decide +kernel) rfl, TT_of (i := 85) (by decide +kernel) rfl⟩
abbrev mX12_two : MI := (yX12_two, cX12_two, 9, some .long)
theorem ml_X12_two : ML mX12_two 6 := ⟨TT_of (i := 1987) (by decide +kernel) rfl, TT_of (i := 104) (by decide +kernel) rfl, ⟨by decide +kernel, by decide +kernel⟩, by decide +kernel⟩
theorem iv_X12_two : Cond.instanceMethod mX12_two.1 ∈ TT ∧ Cond.selects mX12_two.1.cls mX12_two.1 mX12_two.1 ∈ TT := ⟨TT_of (i := 1985) (by decide +kernel) rfl, TT_of (i := 1986) (by decide +kernel) rfl⟩
abbrev mX12_leans : MI := (yX12_leans, cX12_leans, 10, some .long)
theorem ml_X12_leans : ML mX12_leans 5 := ⟨TT_of (i := 1991) (by decide +kernel) rfl, TT_of (i := 104) (by decide +kernel) rfl, ⟨by decide +kernel, by decide +kernel⟩, by decide +kernel⟩
theorem iv_X12_leans : Cond.instanceMethod mX12_leans.1 ∈ TT ∧ Cond.selects mX12_leans.1.cls mX12_leans.1 mX12_leans.1 ∈ TT := ⟨TT_of (i := 1989) (by decide +kernel) rfl, TT_of (i := 1990) (by decide +kernel) rfl⟩
abbrev mX12_choices : MI := (yX12_choices, cX12_choices, 5, some .long)
theorem ml_X12_choices : ML mX12_choices 2 := ⟨TT_of (i := 1994) (by decide +kernel) rfl, TT_of (i := 104) (by decide +kernel) rfl, ⟨by decide +kernel, by decide +kernel⟩, by decide +kernel⟩
theorem st_X12_choices : Cond.static yX12_choices ∈ TT := TT_of (i := 1993) (by decide +kernel) rfl
abbrev mX12_played : MI := (yX12_played, cX12_played, 7, some .int)
theorem ml_X12_played : ML mX12_played 6 := ⟨TT_of (i := 1998) (by decide +kernel) rfl, TT_of (i := 104) (by decide +kernel) rfl, ⟨by decide +kernel, by decide +kernel⟩, by decide +kernel⟩
theorem iv_X12_played : Cond.instanceMethod mX12_played.1 ∈ TT ∧ Cond.selects mX12_played.1.cls mX12_played.1 mX12_played.1 ∈ TT := ⟨TT_of (i := 1996) (by decide +kernel) rfl, TT_of (i := 1997) (by decide +kernel) rfl⟩
abbrev mX12_plays : MI := (yX12_plays, cX12_plays, 6, some .int)
theorem ml_X12_plays : ML mX12_plays 1 := ⟨TT_of (i := 2002) (by decide +kernel) rfl, TT_of (i := 104) (by decide +kernel) rfl, ⟨by decide +kernel, by decide +kernel⟩, by decide +kernel⟩
theorem iv_X12_plays : Cond.instanceMethod mX12_plays.1 ∈ TT ∧ Cond.selects mX12_plays.1.cls mX12_plays.1 mX12_plays.1 ∈ TT := ⟨TT_of (i := 2001) (by decide +kernel) rfl, TT_of (i := 86) (by decide +kernel) rfl⟩
abbrev mX12_drawn : MI := (yX12_drawn, cX12_drawn, 4, some .int)
theorem ml_X12_drawn : ML mX12_drawn 1 := ⟨TT_of (i := 2006) (by decide +kernel) rfl, TT_of (i := 104) (by decide +kernel) rfl, ⟨by decide +kernel, by decide +kernel⟩, by decide +kernel⟩
theorem iv_X12_drawn : Cond.instanceMethod mX12_drawn.1 ∈ TT ∧ Cond.selects mX12_drawn.1.cls mX12_drawn.1 mX12_drawn.1 ∈ TT := ⟨TT_of (i := 2005) (by decide +kernel) rfl, TT_of (i := 87) (by decide +kernel) rfl⟩
abbrev mX12_draw : MI := (yX12_draw, cX12_draw, 1, some .int)
theorem ml_X12_draw : ML mX12_draw 0 := ⟨TT_of (i := 2010) (by decide +kernel) rfl, TT_of (i := 104) (by decide +kernel) rfl, ⟨by decide +kernel, by decide +kernel⟩, by decide +kernel⟩
theorem iv_X12_draw : Cond.instanceMethod mX12_draw.1 ∈ TT ∧ Cond.selects mX12_draw.1.cls mX12_draw.1 mX12_draw.1 ∈ TT := ⟨TT_of (i := 2009) (by decide +kernel) rfl, TT_of (i := 88) (by decide +kernel) rfl⟩
abbrev mX12_ends : MI := (yX12_ends, cX12_ends, 7, some .int)
theorem ml_X12_ends : ML mX12_ends 6 := ⟨TT_of (i := 2015) (by decide +kernel) rfl, TT_of (i := 104) (by decide +kernel) rfl, ⟨by decide +kernel, by decide +kernel⟩, by decide +kernel⟩
theorem iv_X12_ends : Cond.instanceMethod mX12_ends.1 ∈ TT ∧ Cond.selects mX12_ends.1.cls mX12_ends.1 mX12_ends.1 ∈ TT := ⟨TT_of (i := 2013) (by decide +kernel) rfl, TT_of (i := 2014) (by decide +kernel) rfl⟩
abbrev mX12_tellsEnds : MI := (yX12_tellsEnds, cX12_tellsEnds, 8, none)
theorem ml_X12_tellsEnds : ML mX12_tellsEnds 1 := ⟨TT_of (i := 2019) (by decide +kernel) rfl, TT_of (i := 104) (by decide +kernel) rfl, ⟨by decide +kernel, by decide +kernel⟩, by decide +kernel⟩
theorem iv_X12_tellsEnds : Cond.instanceMethod mX12_tellsEnds.1 ∈ TT ∧ Cond.selects mX12_tellsEnds.1.cls mX12_tellsEnds.1 mX12_tellsEnds.1 ∈ TT := ⟨TT_of (i := 2018) (by decide +kernel) rfl, TT_of (i := 89) (by decide +kernel) rfl⟩
abbrev mX12_endsBy : MI := (yX12_endsBy, cX12_endsBy, 7, some .long)
theorem ml_X12_endsBy : ML mX12_endsBy 3 := ⟨TT_of (i := 2023) (by decide +kernel) rfl, TT_of (i := 104) (by decide +kernel) rfl, ⟨by decide +kernel, by decide +kernel⟩, by decide +kernel⟩
theorem iv_X12_endsBy : Cond.instanceMethod mX12_endsBy.1 ∈ TT ∧ Cond.selects mX12_endsBy.1.cls mX12_endsBy.1 mX12_endsBy.1 ∈ TT := ⟨TT_of (i := 2022) (by decide +kernel) rfl, TT_of (i := 90) (by decide +kernel) rfl⟩
abbrev mX12_mean : MI := (yX12_mean, cX12_mean, 9, some .long)
theorem ml_X12_mean : ML mX12_mean 3 := ⟨TT_of (i := 2028) (by decide +kernel) rfl, TT_of (i := 104) (by decide +kernel) rfl, ⟨by decide +kernel, by decide +kernel⟩, by decide +kernel⟩
theorem iv_X12_mean : Cond.instanceMethod mX12_mean.1 ∈ TT ∧ Cond.selects mX12_mean.1.cls mX12_mean.1 mX12_mean.1 ∈ TT := ⟨TT_of (i := 2026) (by decide +kernel) rfl, TT_of (i := 2027) (by decide +kernel) rfl⟩
abbrev mX12_plain : MI := (yX12_plain, cX12_plain, 10, some .int)
theorem ml_X12_plain : ML mX12_plain 2 := ⟨TT_of (i := 2032) (by decide +kernel) rfl, TT_of (i := 104) (by decide +kernel) rfl, ⟨by decide +kernel, by decide +kernel⟩, by decide +kernel⟩
theorem iv_X12_plain : Cond.instanceMethod mX12_plain.1 ∈ TT ∧ Cond.selects mX12_plain.1.cls mX12_plain.1 mX12_plain.1 ∈ TT := ⟨TT_of (i := 2030) (by decide +kernel) rfl, TT_of (i := 2031) (by decide +kernel) rfl⟩
abbrev mX12_right : MI := (yX12_right, cX12_right, 7, some .int)
theorem ml_X12_right : ML mX12_right 4 := ⟨TT_of (i := 2036) (by decide +kernel) rfl, TT_of (i := 104) (by decide +kernel) rfl, ⟨by decide +kernel, by decide +kernel⟩, by decide +kernel⟩
theorem iv_X12_right : Cond.instanceMethod mX12_right.1 ∈ TT ∧ Cond.selects mX12_right.1.cls mX12_right.1 mX12_right.1 ∈ TT := ⟨TT_of (i := 2034) (by decide +kernel) rfl, TT_of (i := 2035) (by decide +kernel) rfl⟩
abbrev mX12_rest : MI := (yX12_rest, cX12_rest, 14, some .long)
theorem ml_X12_rest : ML mX12_rest 3 := ⟨TT_of (i := 2040) (by decide +kernel) rfl, TT_of (i := 104) (by decide +kernel) rfl, ⟨by decide +kernel, by decide +kernel⟩, by decide +kernel⟩
theorem iv_X12_rest : Cond.instanceMethod mX12_rest.1 ∈ TT ∧ Cond.selects mX12_rest.1.cls mX12_rest.1 mX12_rest.1 ∈ TT := ⟨TT_of (i := 2038) (by decide +kernel) rfl, TT_of (i := 2039) (by decide +kernel) rfl⟩
abbrev mX12_season : MI := (yX12_season, cX12_season, 11, some .int)
theorem ml_X12_season : ML mX12_season 5 := ⟨TT_of (i := 2045) (by decide +kernel) rfl, TT_of (i := 104) (by decide +kernel) rfl, ⟨by decide +kernel, by decide +kernel⟩, by decide +kernel⟩
theorem iv_X12_season : Cond.instanceMethod mX12_season.1 ∈ TT ∧ Cond.selects mX12_season.1.cls mX12_season.1 mX12_season.1 ∈ TT := ⟨TT_of (i := 2043) (by decide +kernel) rfl, TT_of (i := 2044) (by decide +kernel) rfl⟩
abbrev mX12_count : MI := (yX12_count, cX12_count, 4, some .int)
theorem ml_X12_count : ML mX12_count 1 := ⟨TT_of (i := 2049) (by decide +kernel) rfl, TT_of (i := 104) (by decide +kernel) rfl, ⟨by decide +kernel, by decide +kernel⟩, by decide +kernel⟩
theorem iv_X12_count : Cond.instanceMethod mX12_count.1 ∈ TT ∧ Cond.selects mX12_count.1.cls mX12_count.1 mX12_count.1 ∈ TT := ⟨TT_of (i := 2047) (by decide +kernel) rfl, TT_of (i := 2048) (by decide +kernel) rfl⟩
theorem nl_L_8 : NL RL 8 10 9 [.null, .null, .null, .null, .int 0, .null, .null, .null, .null] := ⟨_, _, _, cls_X11, TT_of (i := 118) (by decide +kernel) rfl, TT_of (i := 119) (by decide +kernel) rfl, TT_of (i := 92) (by decide +kernel) rfl, by intro j hj; revert j; decide +kernel, by intro v hv a; revert v; simp⟩
theorem lk_L_140 : Cond.methodLink RL 140 yX11_init ∈ TT := TT_of (i := 120) (by decide +kernel) rfl
theorem lk_X11_1 : Cond.methodLink RX11 1 Lib.objectInit ∈ TT := TT_of (i := 123) (by decide +kernel) rfl
theorem nl_X11_7 : NL RX11 7 6 12 [.null, .int 0, .null, .null, .null, .null, .int 0, .int 0, .int 0, .int 0, .int 0, .null] := ⟨_, _, _, cls_X7, TT_of (i := 126) (by decide +kernel) rfl, TT_of (i := 127) (by decide +kernel) rfl, TT_of (i := 93) (by decide +kernel) rfl, by intro j hj; revert j; decide +kernel, by intro v hv a; revert v; simp⟩
theorem lk_X11_9 : Cond.methodLinkNest RX11 9 yX7_init "WhistleBook" ∈ lw_tbl := List.mem_of_getElem? (i := 128) (by decide +kernel)
theorem lk_X7_3 : Cond.methodLink RX7 3 Lib.objectInit ∈ TT := TT_of (i := 131) (by decide +kernel) rfl
theorem fl_X7_9 : FL RX7 9 6 0 (.array .int) true := ⟨_, _, _, _, cls_X7, by decide, rfl, rfl, Or.inl (TT_of (i := 136) (by decide +kernel) rfl)⟩
theorem ff_X7_9 : FLF RX7 9 6 0 (.array .int) := ⟨_, _, _, _, cls_X7, by decide, rfl, rfl, TT_of (i := 136) (by decide +kernel) rfl, rfl⟩
theorem fl_X11_67 : FL RX11 67 6 1 (.int) false := ⟨_, _, _, _, cls_X7, by decide, rfl, rfl, Or.inr ⟨"WhistleBook", List.mem_of_getElem? (i := 137) (by decide +kernel)⟩⟩
theorem fl_X7_37 : FL RX7 37 6 1 (.int) false := ⟨_, _, _, _, cls_X7, by decide, rfl, rfl, Or.inl (TT_of (i := 138) (by decide +kernel) rfl)⟩
theorem fl_X7_15 : FL RX7 15 6 2 (.array .int) true := ⟨_, _, _, _, cls_X7, by decide, rfl, rfl, Or.inl (TT_of (i := 139) (by decide +kernel) rfl)⟩
theorem ff_X7_15 : FLF RX7 15 6 2 (.array .int) := ⟨_, _, _, _, cls_X7, by decide, rfl, rfl, TT_of (i := 139) (by decide +kernel) rfl, rfl⟩
theorem fl_X7_18 : FL RX7 18 6 3 (.array .int) true := ⟨_, _, _, _, cls_X7, by decide, rfl, rfl, Or.inl (TT_of (i := 140) (by decide +kernel) rfl)⟩
theorem ff_X7_18 : FLF RX7 18 6 3 (.array .int) := ⟨_, _, _, _, cls_X7, by decide, rfl, rfl, TT_of (i := 140) (by decide +kernel) rfl, rfl⟩
theorem fl_X7_21 : FL RX7 21 6 4 (.array .int) true := ⟨_, _, _, _, cls_X7, by decide, rfl, rfl, Or.inl (TT_of (i := 141) (by decide +kernel) rfl)⟩
theorem ff_X7_21 : FLF RX7 21 6 4 (.array .int) := ⟨_, _, _, _, cls_X7, by decide, rfl, rfl, TT_of (i := 141) (by decide +kernel) rfl, rfl⟩
theorem fl_X7_26 : FL RX7 26 6 5 (.array (.object "WhistleBook$Word")) true := ⟨_, _, _, _, cls_X7, by decide, rfl, rfl, Or.inl (TT_of (i := 142) (by decide +kernel) rfl)⟩
theorem ff_X7_26 : FLF RX7 26 6 5 (.array (.object "WhistleBook$Word")) := ⟨_, _, _, _, cls_X7, by decide, rfl, rfl, TT_of (i := 142) (by decide +kernel) rfl, rfl⟩
theorem fl_X7_47 : FL RX7 47 6 6 (.int) false := ⟨_, _, _, _, cls_X7, by decide, rfl, rfl, Or.inl (TT_of (i := 143) (by decide +kernel) rfl)⟩
theorem fl_X7_62 : FL RX7 62 6 7 (.int) false := ⟨_, _, _, _, cls_X7, by decide, rfl, rfl, Or.inl (TT_of (i := 144) (by decide +kernel) rfl)⟩
theorem fl_X8_85 : FL RX8 85 6 8 (.int) false := ⟨_, _, _, _, cls_X7, by decide, rfl, rfl, Or.inr ⟨"WhistleBook", List.mem_of_getElem? (i := 145) (by decide +kernel)⟩⟩
theorem fl_X7_82 : FL RX7 82 6 8 (.int) false := ⟨_, _, _, _, cls_X7, by decide, rfl, rfl, Or.inl (TT_of (i := 146) (by decide +kernel) rfl)⟩
theorem fl_X8_98 : FL RX8 98 6 9 (.int) false := ⟨_, _, _, _, cls_X7, by decide, rfl, rfl, Or.inr ⟨"WhistleBook", List.mem_of_getElem? (i := 147) (by decide +kernel)⟩⟩
theorem fl_X7_85 : FL RX7 85 6 9 (.int) false := ⟨_, _, _, _, cls_X7, by decide, rfl, rfl, Or.inl (TT_of (i := 148) (by decide +kernel) rfl)⟩
theorem fl_X8_95 : FL RX8 95 6 10 (.int) false := ⟨_, _, _, _, cls_X7, by decide, rfl, rfl, Or.inr ⟨"WhistleBook", List.mem_of_getElem? (i := 149) (by decide +kernel)⟩⟩
theorem fl_X7_88 : FL RX7 88 6 10 (.int) false := ⟨_, _, _, _, cls_X7, by decide, rfl, rfl, Or.inl (TT_of (i := 150) (by decide +kernel) rfl)⟩
theorem fl_X7_34 : FL RX7 34 6 11 (.object "WhistleBook$Word") false := ⟨_, _, _, _, cls_X7, by decide, rfl, rfl, Or.inl (TT_of (i := 151) (by decide +kernel) rfl)⟩
theorem fl_X8_88 : FL RX8 88 6 11 (.object "WhistleBook$Word") false := ⟨_, _, _, _, cls_X7, by decide, rfl, rfl, Or.inr ⟨"WhistleBook", List.mem_of_getElem? (i := 152) (by decide +kernel)⟩⟩
theorem nl_X11_16 : NL RX11 16 7 8 [.null, .null, .null, .null, .int 0, .int 0, .int 0, .int 0] := ⟨_, _, _, cls_X8, TT_of (i := 179) (by decide +kernel) rfl, TT_of (i := 180) (by decide +kernel) rfl, TT_of (i := 96) (by decide +kernel) rfl, by intro j hj; revert j; decide +kernel, by intro v hv a; revert v; simp⟩
theorem lk_X11_18 : Cond.methodLink RX11 18 yX8_init ∈ TT := TT_of (i := 181) (by decide +kernel) rfl
theorem lk_X8_3 : Cond.methodLink RX8 3 Lib.objectInit ∈ TT := TT_of (i := 184) (by decide +kernel) rfl
theorem nl_X8_9 : NL RX8 9 1 18 [.null, .null, .null, .null, .null, .null, .null, .null, .int 0, .int 0, .int 0, .int 0, .int 0, .int 0, .int 0, .int 0, .int 0, .int 0] := ⟨_, _, _, cls_X1, TT_of (i := 185) (by decide +kernel) rfl, TT_of (i := 186) (by decide +kernel) rfl, TT_of (i := 97) (by decide +kernel) rfl, by intro j hj; revert j; decide +kernel, by intro v hv a; revert v; simp⟩
theorem lk_X8_11 : Cond.methodLinkNest RX8 11 yX1_init "WhistleBook" ∈ lw_tbl := List.mem_of_getElem? (i := 187) (by decide +kernel)
theorem lk_X1_3 : Cond.methodLink RX1 3 Lib.objectInit ∈ TT := TT_of (i := 190) (by decide +kernel) rfl
theorem nl_X1_27 : NL RX1 27 2 3 [.int 0, .null, .null] := ⟨_, _, _, cls_X2, TT_of (i := 191) (by decide +kernel) rfl, TT_of (i := 192) (by decide +kernel) rfl, TT_of (i := 98) (by decide +kernel) rfl, by intro j hj; revert j; decide +kernel, by intro v hv a; revert v; simp⟩
theorem lk_X1_29 : Cond.methodLink RX1 29 yX2_init_ ∈ TT := TT_of (i := 193) (by decide +kernel) rfl
theorem lk_X2_3 : Cond.methodLink RX2 3 Lib.objectInit ∈ TT := TT_of (i := 196) (by decide +kernel) rfl
theorem fl_X2_9 : FL RX2 9 2 0 (.int) true := ⟨_, _, _, _, cls_X2, by decide, rfl, rfl, Or.inl (TT_of (i := 197) (by decide +kernel) rfl)⟩
theorem ff_X2_9 : FLF RX2 9 2 0 (.int) := ⟨_, _, _, _, cls_X2, by decide, rfl, rfl, TT_of (i := 197) (by decide +kernel) rfl, rfl⟩
theorem fl_X11_115 : FL RX11 115 2 0 (.int) true := ⟨_, _, _, _, cls_X2, by decide, rfl, rfl, Or.inr ⟨"WhistleBook", List.mem_of_getElem? (i := 198) (by decide +kernel)⟩⟩
theorem fl_X2_21 : FL RX2 21 2 1 (.array .int) true := ⟨_, _, _, _, cls_X2, by decide, rfl, rfl, Or.inl (TT_of (i := 199) (by decide +kernel) rfl)⟩
theorem ff_X2_21 : FLF RX2 21 2 1 (.array .int) := ⟨_, _, _, _, cls_X2, by decide, rfl, rfl, TT_of (i := 199) (by decide +kernel) rfl, rfl⟩
theorem fl_X2_25 : FL RX2 25 2 2 (.array .int) true := ⟨_, _, _, _, cls_X2, by decide, rfl, rfl, Or.inl (TT_of (i := 200) (by decide +kernel) rfl)⟩
theorem ff_X2_25 : FLF RX2 25 2 2 (.array .int) := ⟨_, _, _, _, cls_X2, by decide, rfl, rfl, TT_of (i := 200) (by decide +kernel) rfl, rfl⟩
theorem fl_X1_11 : FL RX1 11 1 0 (.array .int) true := ⟨_, _, _, _, cls_X1, by decide, rfl, rfl, Or.inl (TT_of (i := 209) (by decide +kernel) rfl)⟩
theorem ff_X1_11 : FLF RX1 11 1 0 (.array .int) := ⟨_, _, _, _, cls_X1, by decide, rfl, rfl, TT_of (i := 209) (by decide +kernel) rfl, rfl⟩
theorem fl_X1_15 : FL RX1 15 1 1 (.array .int) true := ⟨_, _, _, _, cls_X1, by decide, rfl, rfl, Or.inl (TT_of (i := 210) (by decide +kernel) rfl)⟩
theorem ff_X1_15 : FLF RX1 15 1 1 (.array .int) := ⟨_, _, _, _, cls_X1, by decide, rfl, rfl, TT_of (i := 210) (by decide +kernel) rfl, rfl⟩
theorem fl_X0_127 : FL RX0 127 1 1 (.array .int) true := ⟨_, _, _, _, cls_X1, by decide, rfl, rfl, Or.inr ⟨"WhistleBook", List.mem_of_getElem? (i := 211) (by decide +kernel)⟩⟩
theorem fl_X11_151 : FL RX11 151 1 1 (.array .int) true := ⟨_, _, _, _, cls_X1, by decide, rfl, rfl, Or.inr ⟨"WhistleBook", List.mem_of_getElem? (i := 212) (by decide +kernel)⟩⟩
theorem fl_X8_145 : FL RX8 145 1 1 (.array .int) true := ⟨_, _, _, _, cls_X1, by decide, rfl, rfl, Or.inr ⟨"WhistleBook", List.mem_of_getElem? (i := 213) (by decide +kernel)⟩⟩
theorem fl_X1_18 : FL RX1 18 1 2 (.array .int) true := ⟨_, _, _, _, cls_X1, by decide, rfl, rfl, Or.inl (TT_of (i := 214) (by decide +kernel) rfl)⟩
theorem ff_X1_18 : FLF RX1 18 1 2 (.array .int) := ⟨_, _, _, _, cls_X1, by decide, rfl, rfl, TT_of (i := 214) (by decide +kernel) rfl, rfl⟩
theorem fl_X11_367 : FL RX11 367 1 2 (.array .int) true := ⟨_, _, _, _, cls_X1, by decide, rfl, rfl, Or.inr ⟨"WhistleBook", List.mem_of_getElem? (i := 215) (by decide +kernel)⟩⟩
theorem fl_X1_21 : FL RX1 21 1 3 (.array .int) true := ⟨_, _, _, _, cls_X1, by decide, rfl, rfl, Or.inl (TT_of (i := 216) (by decide +kernel) rfl)⟩
theorem ff_X1_21 : FLF RX1 21 1 3 (.array .int) := ⟨_, _, _, _, cls_X1, by decide, rfl, rfl, TT_of (i := 216) (by decide +kernel) rfl, rfl⟩
theorem fl_X0_130 : FL RX0 130 1 3 (.array .int) true := ⟨_, _, _, _, cls_X1, by decide, rfl, rfl, Or.inr ⟨"WhistleBook", List.mem_of_getElem? (i := 217) (by decide +kernel)⟩⟩
theorem fl_X1_24 : FL RX1 24 1 4 (.array .int) true := ⟨_, _, _, _, cls_X1, by decide, rfl, rfl, Or.inl (TT_of (i := 218) (by decide +kernel) rfl)⟩
theorem ff_X1_24 : FLF RX1 24 1 4 (.array .int) := ⟨_, _, _, _, cls_X1, by decide, rfl, rfl, TT_of (i := 218) (by decide +kernel) rfl, rfl⟩
theorem fl_X4_29 : FL RX4 29 1 4 (.array .int) true := ⟨_, _, _, _, cls_X1, by decide, rfl, rfl, Or.inr ⟨"WhistleBook", List.mem_of_getElem? (i := 219) (by decide +kernel)⟩⟩
theorem fl_X1_30 : FL RX1 30 1 5 (.object "WhistleBook$Code") true := ⟨_, _, _, _, cls_X1, by decide, rfl, rfl, Or.inl (TT_of (i := 220) (by decide +kernel) rfl)⟩
theorem ff_X1_30 : FLF RX1 30 1 5 (.object "WhistleBook$Code") := ⟨_, _, _, _, cls_X1, by decide, rfl, rfl, TT_of (i := 220) (by decide +kernel) rfl, rfl⟩
theorem fl_X1_34 : FL RX1 34 1 6 (.array (.object "WhistleBook$Code")) true := ⟨_, _, _, _, cls_X1, by decide, rfl, rfl, Or.inl (TT_of (i := 221) (by decide +kernel) rfl)⟩
theorem ff_X1_34 : FLF RX1 34 1 6 (.array (.object "WhistleBook$Code")) := ⟨_, _, _, _, cls_X1, by decide, rfl, rfl, TT_of (i := 221) (by decide +kernel) rfl, rfl⟩
theorem fl_X1_38 : FL RX1 38 1 7 (.object "WhistleBook$Code") false := ⟨_, _, _, _, cls_X1, by decide, rfl, rfl, Or.inl (TT_of (i := 222) (by decide +kernel) rfl)⟩
theorem fl_X0_63 : FL RX0 63 1 7 (.object "WhistleBook$Code") false := ⟨_, _, _, _, cls_X1, by decide, rfl, rfl, Or.inr ⟨"WhistleBook", List.mem_of_getElem? (i := 223) (by decide +kernel)⟩⟩
theorem fl_X11_107 : FL RX11 107 1 7 (.object "WhistleBook$Code") false := ⟨_, _, _, _, cls_X1, by decide, rfl, rfl, Or.inr ⟨"WhistleBook", List.mem_of_getElem? (i := 224) (by decide +kernel)⟩⟩
theorem fl_X0_59 : FL RX0 59 1 8 (.boolean) false := ⟨_, _, _, _, cls_X1, by decide, rfl, rfl, Or.inr ⟨"WhistleBook", List.mem_of_getElem? (i := 225) (by decide +kernel)⟩⟩
theorem fl_X1_54 : FL RX1 54 1 8 (.boolean) false := ⟨_, _, _, _, cls_X1, by decide, rfl, rfl, Or.inl (TT_of (i := 226) (by decide +kernel) rfl)⟩
theorem fl_X11_111 : FL RX11 111 1 8 (.boolean) false := ⟨_, _, _, _, cls_X1, by decide, rfl, rfl, Or.inr ⟨"WhistleBook", List.mem_of_getElem? (i := 227) (by decide +kernel)⟩⟩
theorem fl_X1_58 : FL RX1 58 1 9 (.int) false := ⟨_, _, _, _, cls_X1, by decide, rfl, rfl, Or.inl (TT_of (i := 228) (by decide +kernel) rfl)⟩
theorem fl_X11_87 : FL RX11 87 1 9 (.int) false := ⟨_, _, _, _, cls_X1, by decide, rfl, rfl, Or.inr ⟨"WhistleBook", List.mem_of_getElem? (i := 229) (by decide +kernel)⟩⟩
theorem fl_X5_23 : FL RX5 23 1 10 (.int) false := ⟨_, _, _, _, cls_X1, by decide, rfl, rfl, Or.inr ⟨"WhistleBook", List.mem_of_getElem? (i := 230) (by decide +kernel)⟩⟩
theorem fl_X1_61 : FL RX1 61 1 10 (.int) false := ⟨_, _, _, _, cls_X1, by decide, rfl, rfl, Or.inl (TT_of (i := 231) (by decide +kernel) rfl)⟩
theorem fl_X11_120 : FL RX11 120 1 10 (.int) false := ⟨_, _, _, _, cls_X1, by decide, rfl, rfl, Or.inr ⟨"WhistleBook", List.mem_of_getElem? (i := 232) (by decide +kernel)⟩⟩
theorem fl_X1_64 : FL RX1 64 1 11 (.int) false := ⟨_, _, _, _, cls_X1, by decide, rfl, rfl, Or.inl (TT_of (i := 233) (by decide +kernel) rfl)⟩
theorem fl_X4_45 : FL RX4 45 1 11 (.int) false := ⟨_, _, _, _, cls_X1, by decide, rfl, rfl, Or.inr ⟨"WhistleBook", List.mem_of_getElem? (i := 234) (by decide +kernel)⟩⟩
theorem fl_X11_179 : FL RX11 179 1 11 (.int) false := ⟨_, _, _, _, cls_X1, by decide, rfl, rfl, Or.inr ⟨"WhistleBook", List.mem_of_getElem? (i := 235) (by decide +kernel)⟩⟩
theorem fl_X1_41 : FL RX1 41 1 12 (.int) false := ⟨_, _, _, _, cls_X1, by decide, rfl, rfl, Or.inl (TT_of (i := 236) (by decide +kernel) rfl)⟩
theorem fl_X0_83 : FL RX0 83 1 12 (.int) false := ⟨_, _, _, _, cls_X1, by decide, rfl, rfl, Or.inr ⟨"WhistleBook", List.mem_of_getElem? (i := 237) (by decide +kernel)⟩⟩
theorem fl_X8_154 : FL RX8 154 1 12 (.int) false := ⟨_, _, _, _, cls_X1, by decide, rfl, rfl, Or.inr ⟨"WhistleBook", List.mem_of_getElem? (i := 238) (by decide +kernel)⟩⟩
theorem fl_X11_176 : FL RX11 176 1 12 (.int) false := ⟨_, _, _, _, cls_X1, by decide, rfl, rfl, Or.inr ⟨"WhistleBook", List.mem_of_getElem? (i := 239) (by decide +kernel)⟩⟩
theorem fl_X1_45 : FL RX1 45 1 13 (.int) false := ⟨_, _, _, _, cls_X1, by decide, rfl, rfl, Or.inl (TT_of (i := 240) (by decide +kernel) rfl)⟩
theorem fl_X3_37 : FL RX3 37 1 13 (.int) false := ⟨_, _, _, _, cls_X1, by decide, rfl, rfl, Or.inr ⟨"WhistleBook", List.mem_of_getElem? (i := 241) (by decide +kernel)⟩⟩
theorem fl_X0_137 : FL RX0 137 1 13 (.int) false := ⟨_, _, _, _, cls_X1, by decide, rfl, rfl, Or.inr ⟨"WhistleBook", List.mem_of_getElem? (i := 242) (by decide +kernel)⟩⟩
theorem fl_X11_173 : FL RX11 173 1 13 (.int) false := ⟨_, _, _, _, cls_X1, by decide, rfl, rfl, Or.inr ⟨"WhistleBook", List.mem_of_getElem? (i := 243) (by decide +kernel)⟩⟩
theorem fl_X1_67 : FL RX1 67 1 14 (.int) false := ⟨_, _, _, _, cls_X1, by decide, rfl, rfl, Or.inl (TT_of (i := 244) (by decide +kernel) rfl)⟩
theorem fl_X11_161 : FL RX11 161 1 14 (.int) false := ⟨_, _, _, _, cls_X1, by decide, rfl, rfl, Or.inr ⟨"WhistleBook", List.mem_of_getElem? (i := 245) (by decide +kernel)⟩⟩
theorem fl_X0_47 : FL RX0 47 1 15 (.int) false := ⟨_, _, _, _, cls_X1, by decide, rfl, rfl, Or.inr ⟨"WhistleBook", List.mem_of_getElem? (i := 246) (by decide +kernel)⟩⟩
theorem fl_X1_70 : FL RX1 70 1 15 (.int) false := ⟨_, _, _, _, cls_X1, by decide, rfl, rfl, Or.inl (TT_of (i := 247) (by decide +kernel) rfl)⟩
theorem fl_X11_164 : FL RX11 164 1 15 (.int) false := ⟨_, _, _, _, cls_X1, by decide, rfl, rfl, Or.inr ⟨"WhistleBook", List.mem_of_getElem? (i := 248) (by decide +kernel)⟩⟩
theorem fl_X1_73 : FL RX1 73 1 16 (.int) false := ⟨_, _, _, _, cls_X1, by decide, rfl, rfl, Or.inl (TT_of (i := 249) (by decide +kernel) rfl)⟩
theorem fl_X0_93 : FL RX0 93 1 16 (.int) false := ⟨_, _, _, _, cls_X1, by decide, rfl, rfl, Or.inr ⟨"WhistleBook", List.mem_of_getElem? (i := 250) (by decide +kernel)⟩⟩
theorem fl_X11_170 : FL RX11 170 1 16 (.int) false := ⟨_, _, _, _, cls_X1, by decide, rfl, rfl, Or.inr ⟨"WhistleBook", List.mem_of_getElem? (i := 251) (by decide +kernel)⟩⟩
theorem fl_X1_76 : FL RX1 76 1 17 (.int) false := ⟨_, _, _, _, cls_X1, by decide, rfl, rfl, Or.inl (TT_of (i := 252) (by decide +kernel) rfl)⟩
theorem fl_X11_185 : FL RX11 185 1 17 (.int) false := ⟨_, _, _, _, cls_X1, by decide, rfl, rfl, Or.inr ⟨"WhistleBook", List.mem_of_getElem? (i := 253) (by decide +kernel)⟩⟩
theorem fl_X8_31 : FL RX8 31 7 0 (.object "WhistleBook$Tape") true := ⟨_, _, _, _, cls_X8, by decide, rfl, rfl, Or.inl (TT_of (i := 291) (by decide +kernel) rfl)⟩
theorem ff_X8_31 : FLF RX8 31 7 0 (.object "WhistleBook$Tape") := ⟨_, _, _, _, cls_X8, by decide, rfl, rfl, TT_of (i := 291) (by decide +kernel) rfl, rfl⟩
theorem fl_X8_12 : FL RX8 12 7 1 (.object "WhistleBook$Book") true := ⟨_, _, _, _, cls_X8, by decide, rfl, rfl, Or.inl (TT_of (i := 292) (by decide +kernel) rfl)⟩
theorem ff_X8_12 : FLF RX8 12 7 1 (.object "WhistleBook$Book") := ⟨_, _, _, _, cls_X8, by decide, rfl, rfl, TT_of (i := 292) (by decide +kernel) rfl, rfl⟩
theorem fl_X11_93 : FL RX11 93 7 1 (.object "WhistleBook$Book") true := ⟨_, _, _, _, cls_X8, by decide, rfl, rfl, Or.inr ⟨"WhistleBook", List.mem_of_getElem? (i := 293) (by decide +kernel)⟩⟩
theorem fl_X8_20 : FL RX8 20 7 2 (.array .int) true := ⟨_, _, _, _, cls_X8, by decide, rfl, rfl, Or.inl (TT_of (i := 294) (by decide +kernel) rfl)⟩
theorem ff_X8_20 : FLF RX8 20 7 2 (.array .int) := ⟨_, _, _, _, cls_X8, by decide, rfl, rfl, TT_of (i := 294) (by decide +kernel) rfl, rfl⟩
theorem fl_X8_24 : FL RX8 24 7 3 (.array .int) true := ⟨_, _, _, _, cls_X8, by decide, rfl, rfl, Or.inl (TT_of (i := 295) (by decide +kernel) rfl)⟩
theorem ff_X8_24 : FLF RX8 24 7 3 (.array .int) := ⟨_, _, _, _, cls_X8, by decide, rfl, rfl, TT_of (i := 295) (by decide +kernel) rfl, rfl⟩
theorem fl_X8_56 : FL RX8 56 7 4 (.int) false := ⟨_, _, _, _, cls_X8, by decide, rfl, rfl, Or.inl (TT_of (i := 296) (by decide +kernel) rfl)⟩
theorem fl_X8_59 : FL RX8 59 7 5 (.int) false := ⟨_, _, _, _, cls_X8, by decide, rfl, rfl, Or.inl (TT_of (i := 297) (by decide +kernel) rfl)⟩
theorem fl_X8_62 : FL RX8 62 7 6 (.boolean) false := ⟨_, _, _, _, cls_X8, by decide, rfl, rfl, Or.inl (TT_of (i := 298) (by decide +kernel) rfl)⟩
theorem fl_X8_27 : FL RX8 27 7 7 (.int) false := ⟨_, _, _, _, cls_X8, by decide, rfl, rfl, Or.inl (TT_of (i := 299) (by decide +kernel) rfl)⟩
theorem fl_X11_127 : FL RX11 127 7 7 (.int) false := ⟨_, _, _, _, cls_X8, by decide, rfl, rfl, Or.inr ⟨"WhistleBook", List.mem_of_getElem? (i := 300) (by decide +kernel)⟩⟩
theorem nl_X11_25 : NL RX11 25 1 18 [.null, .null, .null, .null, .null, .null, .null, .null, .int 0, .int 0, .int 0, .int 0, .int 0, .int 0, .int 0, .int 0, .int 0, .int 0] := ⟨_, _, _, cls_X1, TT_of (i := 318) (by decide +kernel) rfl, TT_of (i := 186) (by decide +kernel) rfl, TT_of (i := 97) (by decide +kernel) rfl, by intro j hj; revert j; decide +kernel, by intro v hv a; revert v; simp⟩
theorem lk_X11_27 : Cond.methodLinkNest RX11 27 yX1_init "WhistleBook" ∈ lw_tbl := List.mem_of_getElem? (i := 319) (by decide +kernel)
theorem nl_X11_35 : NL RX11 35 0 16 [.null, .null, .null, .null, .null, .null, .null, .null, .int 0, .int 0, .int 0, .int 0, .int 0, .int 0, .int 0, .int 0] := ⟨_, _, _, cls_X0, TT_of (i := 320) (by decide +kernel) rfl, TT_of (i := 321) (by decide +kernel) rfl, TT_of (i := 99) (by decide +kernel) rfl, by intro j hj; revert j; decide +kernel, by intro v hv a; revert v; simp⟩
theorem lk_X11_37 : Cond.methodLink RX11 37 yX0_init ∈ TT := TT_of (i := 322) (by decide +kernel) rfl
theorem lk_X0_3 : Cond.methodLink RX0 3 Lib.objectInit ∈ TT := TT_of (i := 325) (by decide +kernel) rfl
theorem nl_X0_9 : NL RX0 9 8 6 [.null, .null, .null, .null, .null, .null] := ⟨_, _, _, cls_X9, TT_of (i := 326) (by decide +kernel) rfl, TT_of (i := 327) (by decide +kernel) rfl, TT_of (i := 100) (by decide +kernel) rfl, by intro j hj; revert j; decide +kernel, by intro v hv a; revert v; simp⟩
theorem lk_X0_11 : Cond.methodLinkNest RX0 11 yX9_init "WhistleBook" ∈ lw_tbl := List.mem_of_getElem? (i := 328) (by decide +kernel)
theorem lk_X9_3 : Cond.methodLink RX9 3 Lib.objectInit ∈ TT := TT_of (i := 331) (by decide +kernel) rfl
theorem fl_X9_9 : FL RX9 9 8 0 (.array .int) true := ⟨_, _, _, _, cls_X9, by decide, rfl, rfl, Or.inl (TT_of (i := 332) (by decide +kernel) rfl)⟩
theorem ff_X9_9 : FLF RX9 9 8 0 (.array .int) := ⟨_, _, _, _, cls_X9, by decide, rfl, rfl, TT_of (i := 332) (by decide +kernel) rfl, rfl⟩
theorem fl_X9_15 : FL RX9 15 8 1 (.array .int) true := ⟨_, _, _, _, cls_X9, by decide, rfl, rfl, Or.inl (TT_of (i := 333) (by decide +kernel) rfl)⟩
theorem ff_X9_15 : FLF RX9 15 8 1 (.array .int) := ⟨_, _, _, _, cls_X9, by decide, rfl, rfl, TT_of (i := 333) (by decide +kernel) rfl, rfl⟩
theorem fl_X9_18 : FL RX9 18 8 2 (.array .int) true := ⟨_, _, _, _, cls_X9, by decide, rfl, rfl, Or.inl (TT_of (i := 334) (by decide +kernel) rfl)⟩
theorem ff_X9_18 : FLF RX9 18 8 2 (.array .int) := ⟨_, _, _, _, cls_X9, by decide, rfl, rfl, TT_of (i := 334) (by decide +kernel) rfl, rfl⟩
theorem fl_X9_21 : FL RX9 21 8 3 (.array .int) true := ⟨_, _, _, _, cls_X9, by decide, rfl, rfl, Or.inl (TT_of (i := 335) (by decide +kernel) rfl)⟩
theorem ff_X9_21 : FLF RX9 21 8 3 (.array .int) := ⟨_, _, _, _, cls_X9, by decide, rfl, rfl, TT_of (i := 335) (by decide +kernel) rfl, rfl⟩
theorem fl_X9_24 : FL RX9 24 8 4 (.array .int) true := ⟨_, _, _, _, cls_X9, by decide, rfl, rfl, Or.inl (TT_of (i := 336) (by decide +kernel) rfl)⟩
theorem ff_X9_24 : FLF RX9 24 8 4 (.array .int) := ⟨_, _, _, _, cls_X9, by decide, rfl, rfl, TT_of (i := 336) (by decide +kernel) rfl, rfl⟩
theorem fl_X9_27 : FL RX9 27 8 5 (.array .int) true := ⟨_, _, _, _, cls_X9, by decide, rfl, rfl, Or.inl (TT_of (i := 337) (by decide +kernel) rfl)⟩
theorem ff_X9_27 : FLF RX9 27 8 5 (.array .int) := ⟨_, _, _, _, cls_X9, by decide, rfl, rfl, TT_of (i := 337) (by decide +kernel) rfl, rfl⟩
theorem fl_X0_37 : FL RX0 37 0 0 (.object "WhistleBook$Book") true := ⟨_, _, _, _, cls_X0, by decide, rfl, rfl, Or.inl (TT_of (i := 351) (by decide +kernel) rfl)⟩
theorem ff_X0_37 : FLF RX0 37 0 0 (.object "WhistleBook$Book") := ⟨_, _, _, _, cls_X0, by decide, rfl, rfl, TT_of (i := 351) (by decide +kernel) rfl, rfl⟩
theorem fl_X0_12 : FL RX0 12 0 1 (.object "WhistleBook$Ways") true := ⟨_, _, _, _, cls_X0, by decide, rfl, rfl, Or.inl (TT_of (i := 352) (by decide +kernel) rfl)⟩
theorem ff_X0_12 : FLF RX0 12 0 1 (.object "WhistleBook$Ways") := ⟨_, _, _, _, cls_X0, by decide, rfl, rfl, TT_of (i := 352) (by decide +kernel) rfl, rfl⟩
theorem fl_X3_42 : FL RX3 42 0 1 (.object "WhistleBook$Ways") true := ⟨_, _, _, _, cls_X0, by decide, rfl, rfl, Or.inr ⟨"WhistleBook", List.mem_of_getElem? (i := 353) (by decide +kernel)⟩⟩
theorem fl_X0_18 : FL RX0 18 0 2 (.array .int) true := ⟨_, _, _, _, cls_X0, by decide, rfl, rfl, Or.inl (TT_of (i := 354) (by decide +kernel) rfl)⟩
theorem ff_X0_18 : FLF RX0 18 0 2 (.array .int) := ⟨_, _, _, _, cls_X0, by decide, rfl, rfl, TT_of (i := 354) (by decide +kernel) rfl, rfl⟩
theorem fl_X0_22 : FL RX0 22 0 3 (.array .int) true := ⟨_, _, _, _, cls_X0, by decide, rfl, rfl, Or.inl (TT_of (i := 355) (by decide +kernel) rfl)⟩
theorem ff_X0_22 : FLF RX0 22 0 3 (.array .int) := ⟨_, _, _, _, cls_X0, by decide, rfl, rfl, TT_of (i := 355) (by decide +kernel) rfl, rfl⟩
theorem fl_X0_25 : FL RX0 25 0 4 (.array .int) true := ⟨_, _, _, _, cls_X0, by decide, rfl, rfl, Or.inl (TT_of (i := 356) (by decide +kernel) rfl)⟩
theorem ff_X0_25 : FLF RX0 25 0 4 (.array .int) := ⟨_, _, _, _, cls_X0, by decide, rfl, rfl, TT_of (i := 356) (by decide +kernel) rfl, rfl⟩
theorem fl_X0_28 : FL RX0 28 0 5 (.array .int) true := ⟨_, _, _, _, cls_X0, by decide, rfl, rfl, Or.inl (TT_of (i := 357) (by decide +kernel) rfl)⟩
theorem ff_X0_28 : FLF RX0 28 0 5 (.array .int) := ⟨_, _, _, _, cls_X0, by decide, rfl, rfl, TT_of (i := 357) (by decide +kernel) rfl, rfl⟩
theorem fl_X0_31 : FL RX0 31 0 6 (.array .int) true := ⟨_, _, _, _, cls_X0, by decide, rfl, rfl, Or.inl (TT_of (i := 358) (by decide +kernel) rfl)⟩
theorem ff_X0_31 : FLF RX0 31 0 6 (.array .int) := ⟨_, _, _, _, cls_X0, by decide, rfl, rfl, TT_of (i := 358) (by decide +kernel) rfl, rfl⟩
theorem fl_X0_34 : FL RX0 34 0 7 (.array .int) true := ⟨_, _, _, _, cls_X0, by decide, rfl, rfl, Or.inl (TT_of (i := 359) (by decide +kernel) rfl)⟩
theorem ff_X0_34 : FLF RX0 34 0 7 (.array .int) := ⟨_, _, _, _, cls_X0, by decide, rfl, rfl, TT_of (i := 359) (by decide +kernel) rfl, rfl⟩
theorem fl_X0_104 : FL RX0 104 0 8 (.int) false := ⟨_, _, _, _, cls_X0, by decide, rfl, rfl, Or.inl (TT_of (i := 360) (by decide +kernel) rfl)⟩
theorem fl_X0_107 : FL RX0 107 0 9 (.int) false := ⟨_, _, _, _, cls_X0, by decide, rfl, rfl, Or.inl (TT_of (i := 361) (by decide +kernel) rfl)⟩
theorem fl_X0_110 : FL RX0 110 0 10 (.int) false := ⟨_, _, _, _, cls_X0, by decide, rfl, rfl, Or.inl (TT_of (i := 362) (by decide +kernel) rfl)⟩
theorem fl_X0_113 : FL RX0 113 0 11 (.int) false := ⟨_, _, _, _, cls_X0, by decide, rfl, rfl, Or.inl (TT_of (i := 363) (by decide +kernel) rfl)⟩
theorem fl_X3_60 : FL RX3 60 0 12 (.int) false := ⟨_, _, _, _, cls_X0, by decide, rfl, rfl, Or.inr ⟨"WhistleBook", List.mem_of_getElem? (i := 364) (by decide +kernel)⟩⟩
theorem fl_X0_86 : FL RX0 86 0 12 (.int) false := ⟨_, _, _, _, cls_X0, by decide, rfl, rfl, Or.inl (TT_of (i := 365) (by decide +kernel) rfl)⟩
theorem fl_X11_364 : FL RX11 364 0 12 (.int) false := ⟨_, _, _, _, cls_X0, by decide, rfl, rfl, Or.inr ⟨"WhistleBook", List.mem_of_getElem? (i := 366) (by decide +kernel)⟩⟩
theorem fl_X0_80 : FL RX0 80 0 13 (.int) false := ⟨_, _, _, _, cls_X0, by decide, rfl, rfl, Or.inl (TT_of (i := 367) (by decide +kernel) rfl)⟩
theorem fl_X0_119 : FL RX0 119 0 14 (.int) false := ⟨_, _, _, _, cls_X0, by decide, rfl, rfl, Or.inl (TT_of (i := 368) (by decide +kernel) rfl)⟩
theorem fl_X0_124 : FL RX0 124 0 15 (.int) false := ⟨_, _, _, _, cls_X0, by decide, rfl, rfl, Or.inl (TT_of (i := 369) (by decide +kernel) rfl)⟩
theorem nl_X11_44 : NL RX11 44 4 5 [.null, .null, .null, .null, .null] := ⟨_, _, _, cls_X4, TT_of (i := 403) (by decide +kernel) rfl, TT_of (i := 404) (by decide +kernel) rfl, TT_of (i := 101) (by decide +kernel) rfl, by intro j hj; revert j; decide +kernel, by intro v hv a; revert v; simp⟩
theorem lk_X11_46 : Cond.methodLink RX11 46 yX4_init ∈ TT := TT_of (i := 405) (by decide +kernel) rfl
theorem lk_X4_3 : Cond.methodLink RX4 3 Lib.objectInit ∈ TT := TT_of (i := 408) (by decide +kernel) rfl
theorem fl_X4_21 : FL RX4 21 4 0 (.object "WhistleBook$Book") true := ⟨_, _, _, _, cls_X4, by decide, rfl, rfl, Or.inl (TT_of (i := 409) (by decide +kernel) rfl)⟩
theorem ff_X4_21 : FLF RX4 21 4 0 (.object "WhistleBook$Book") := ⟨_, _, _, _, cls_X4, by decide, rfl, rfl, TT_of (i := 409) (by decide +kernel) rfl, rfl⟩
theorem fl_X4_25 : FL RX4 25 4 1 (.object "WhistleBook$Bench") true := ⟨_, _, _, _, cls_X4, by decide, rfl, rfl, Or.inl (TT_of (i := 410) (by decide +kernel) rfl)⟩
theorem ff_X4_25 : FLF RX4 25 4 1 (.object "WhistleBook$Bench") := ⟨_, _, _, _, cls_X4, by decide, rfl, rfl, TT_of (i := 410) (by decide +kernel) rfl, rfl⟩
theorem fl_X4_9 : FL RX4 9 4 2 (.array .int) true := ⟨_, _, _, _, cls_X4, by decide, rfl, rfl, Or.inl (TT_of (i := 411) (by decide +kernel) rfl)⟩
theorem ff_X4_9 : FLF RX4 9 4 2 (.array .int) := ⟨_, _, _, _, cls_X4, by decide, rfl, rfl, TT_of (i := 411) (by decide +kernel) rfl, rfl⟩
theorem fl_X4_15 : FL RX4 15 4 3 (.array .int) true := ⟨_, _, _, _, cls_X4, by decide, rfl, rfl, Or.inl (TT_of (i := 412) (by decide +kernel) rfl)⟩
theorem ff_X4_15 : FLF RX4 15 4 3 (.array .int) := ⟨_, _, _, _, cls_X4, by decide, rfl, rfl, TT_of (i := 412) (by decide +kernel) rfl, rfl⟩
theorem fl_X4_18 : FL RX4 18 4 4 (.array .int) true := ⟨_, _, _, _, cls_X4, by decide, rfl, rfl, Or.inl (TT_of (i := 413) (by decide +kernel) rfl)⟩
theorem ff_X4_18 : FLF RX4 18 4 4 (.array .int) := ⟨_, _, _, _, cls_X4, by decide, rfl, rfl, TT_of (i := 413) (by decide +kernel) rfl, rfl⟩
theorem nl_X11_53 : NL RX11 53 3 10 [.null, .null, .null, .null, .int 0, .int 0, .int 0, .int 0, .int 0, .int 0] := ⟨_, _, _, cls_X3, TT_of (i := 425) (by decide +kernel) rfl, TT_of (i := 426) (by decide +kernel) rfl, TT_of (i := 102) (by decide +kernel) rfl, by intro j hj; revert j; decide +kernel, by intro v hv a; revert v; simp⟩
theorem lk_X11_55 : Cond.methodLink RX11 55 yX3_init ∈ TT := TT_of (i := 427) (by decide +kernel) rfl
theorem lk_X3_3 : Cond.methodLink RX3 3 Lib.objectInit ∈ TT := TT_of (i := 430) (by decide +kernel) rfl
theorem fl_X3_18 : FL RX3 18 3 0 (.object "WhistleBook$Book") true := ⟨_, _, _, _, cls_X3, by decide, rfl, rfl, Or.inl (TT_of (i := 431) (by decide +kernel) rfl)⟩
theorem ff_X3_18 : FLF RX3 18 3 0 (.object "WhistleBook$Book") := ⟨_, _, _, _, cls_X3, by decide, rfl, rfl, TT_of (i := 431) (by decide +kernel) rfl, rfl⟩
theorem fl_X3_22 : FL RX3 22 3 1 (.object "WhistleBook$Bench") true := ⟨_, _, _, _, cls_X3, by decide, rfl, rfl, Or.inl (TT_of (i := 432) (by decide +kernel) rfl)⟩
theorem ff_X3_22 : FLF RX3 22 3 1 (.object "WhistleBook$Bench") := ⟨_, _, _, _, cls_X3, by decide, rfl, rfl, TT_of (i := 432) (by decide +kernel) rfl, rfl⟩
theorem fl_X3_9 : FL RX3 9 3 2 (.array .int) true := ⟨_, _, _, _, cls_X3, by decide, rfl, rfl, Or.inl (TT_of (i := 433) (by decide +kernel) rfl)⟩
theorem ff_X3_9 : FLF RX3 9 3 2 (.array .int) := ⟨_, _, _, _, cls_X3, by decide, rfl, rfl, TT_of (i := 433) (by decide +kernel) rfl, rfl⟩
theorem fl_X3_15 : FL RX3 15 3 3 (.array .int) true := ⟨_, _, _, _, cls_X3, by decide, rfl, rfl, Or.inl (TT_of (i := 434) (by decide +kernel) rfl)⟩
theorem ff_X3_15 : FLF RX3 15 3 3 (.array .int) := ⟨_, _, _, _, cls_X3, by decide, rfl, rfl, TT_of (i := 434) (by decide +kernel) rfl, rfl⟩
theorem fl_X3_27 : FL RX3 27 3 4 (.int) false := ⟨_, _, _, _, cls_X3, by decide, rfl, rfl, Or.inl (TT_of (i := 435) (by decide +kernel) rfl)⟩
theorem fl_X3_31 : FL RX3 31 3 5 (.int) false := ⟨_, _, _, _, cls_X3, by decide, rfl, rfl, Or.inl (TT_of (i := 436) (by decide +kernel) rfl)⟩
theorem fl_X3_34 : FL RX3 34 3 6 (.int) false := ⟨_, _, _, _, cls_X3, by decide, rfl, rfl, Or.inl (TT_of (i := 437) (by decide +kernel) rfl)⟩
theorem fl_X3_80 : FL RX3 80 3 7 (.int) false := ⟨_, _, _, _, cls_X3, by decide, rfl, rfl, Or.inl (TT_of (i := 438) (by decide +kernel) rfl)⟩
theorem fl_X11_289 : FL RX11 289 3 7 (.int) false := ⟨_, _, _, _, cls_X3, by decide, rfl, rfl, Or.inr ⟨"WhistleBook", List.mem_of_getElem? (i := 439) (by decide +kernel)⟩⟩
theorem fl_X3_83 : FL RX3 83 3 8 (.int) false := ⟨_, _, _, _, cls_X3, by decide, rfl, rfl, Or.inl (TT_of (i := 440) (by decide +kernel) rfl)⟩
theorem fl_X11_295 : FL RX11 295 3 8 (.int) false := ⟨_, _, _, _, cls_X3, by decide, rfl, rfl, Or.inr ⟨"WhistleBook", List.mem_of_getElem? (i := 441) (by decide +kernel)⟩⟩
theorem fl_X3_86 : FL RX3 86 3 9 (.int) false := ⟨_, _, _, _, cls_X3, by decide, rfl, rfl, Or.inl (TT_of (i := 442) (by decide +kernel) rfl)⟩
theorem fl_X11_298 : FL RX11 298 3 9 (.int) false := ⟨_, _, _, _, cls_X3, by decide, rfl, rfl, Or.inr ⟨"WhistleBook", List.mem_of_getElem? (i := 443) (by decide +kernel)⟩⟩
theorem nl_X11_60 : NL RX11 60 5 7 [.null, .null, .null, .int 0, .int 0, .int 0, .int 0] := ⟨_, _, _, cls_X5, TT_of (i := 465) (by decide +kernel) rfl, TT_of (i := 466) (by decide +kernel) rfl, TT_of (i := 103) (by decide +kernel) rfl, by intro j hj; revert j; decide +kernel, by intro v hv a; revert v; simp⟩
theorem lk_X11_62 : Cond.methodLink RX11 62 yX5_init ∈ TT := TT_of (i := 467) (by decide +kernel) rfl
theorem lk_X5_3 : Cond.methodLink RX5 3 Lib.objectInit ∈ TT := TT_of (i := 470) (by decide +kernel) rfl
theorem fl_X5_15 : FL RX5 15 5 0 (.object "WhistleBook$Book") true := ⟨_, _, _, _, cls_X5, by decide, rfl, rfl, Or.inl (TT_of (i := 471) (by decide +kernel) rfl)⟩
theorem ff_X5_15 : FLF RX5 15 5 0 (.object "WhistleBook$Book") := ⟨_, _, _, _, cls_X5, by decide, rfl, rfl, TT_of (i := 471) (by decide +kernel) rfl, rfl⟩
theorem fl_X5_19 : FL RX5 19 5 1 (.object "WhistleBook$Bench") true := ⟨_, _, _, _, cls_X5, by decide, rfl, rfl, Or.inl (TT_of (i := 472) (by decide +kernel) rfl)⟩
theorem ff_X5_19 : FLF RX5 19 5 1 (.object "WhistleBook$Bench") := ⟨_, _, _, _, cls_X5, by decide, rfl, rfl, TT_of (i := 472) (by decide +kernel) rfl, rfl⟩
theorem fl_X5_9 : FL RX5 9 5 2 (.array .int) true := ⟨_, _, _, _, cls_X5, by decide, rfl, rfl, Or.inl (TT_of (i := 473) (by decide +kernel) rfl)⟩
theorem ff_X5_9 : FLF RX5 9 5 2 (.array .int) := ⟨_, _, _, _, cls_X5, by decide, rfl, rfl, TT_of (i := 473) (by decide +kernel) rfl, rfl⟩
theorem fl_X5_42 : FL RX5 42 5 3 (.int) false := ⟨_, _, _, _, cls_X5, by decide, rfl, rfl, Or.inl (TT_of (i := 474) (by decide +kernel) rfl)⟩
theorem fl_X11_325 : FL RX11 325 5 3 (.int) false := ⟨_, _, _, _, cls_X5, by decide, rfl, rfl, Or.inr ⟨"WhistleBook", List.mem_of_getElem? (i := 475) (by decide +kernel)⟩⟩
theorem fl_X5_39 : FL RX5 39 5 4 (.int) false := ⟨_, _, _, _, cls_X5, by decide, rfl, rfl, Or.inl (TT_of (i := 476) (by decide +kernel) rfl)⟩
theorem fl_X11_328 : FL RX11 328 5 4 (.int) false := ⟨_, _, _, _, cls_X5, by decide, rfl, rfl, Or.inr ⟨"WhistleBook", List.mem_of_getElem? (i := 477) (by decide +kernel)⟩⟩
theorem fl_X5_54 : FL RX5 54 5 5 (.int) false := ⟨_, _, _, _, cls_X5, by decide, rfl, rfl, Or.inl (TT_of (i := 478) (by decide +kernel) rfl)⟩
theorem fl_X11_331 : FL RX11 331 5 5 (.int) false := ⟨_, _, _, _, cls_X5, by decide, rfl, rfl, Or.inr ⟨"WhistleBook", List.mem_of_getElem? (i := 479) (by decide +kernel)⟩⟩
theorem fl_X5_51 : FL RX5 51 5 6 (.int) false := ⟨_, _, _, _, cls_X5, by decide, rfl, rfl, Or.inl (TT_of (i := 480) (by decide +kernel) rfl)⟩
theorem fl_X11_334 : FL RX11 334 5 6 (.int) false := ⟨_, _, _, _, cls_X5, by decide, rfl, rfl, Or.inr ⟨"WhistleBook", List.mem_of_getElem? (i := 481) (by decide +kernel)⟩⟩
theorem fl_X11_10 : FL RX11 10 10 0 (.object "WhistleBook$Tape") true := ⟨_, _, _, _, cls_X11, by decide, rfl, rfl, Or.inl (TT_of (i := 497) (by decide +kernel) rfl)⟩
theorem ff_X11_10 : FLF RX11 10 10 0 (.object "WhistleBook$Tape") := ⟨_, _, _, _, cls_X11, by decide, rfl, rfl, TT_of (i := 497) (by decide +kernel) rfl, rfl⟩
theorem fl_X11_21 : FL RX11 21 10 1 (.object "WhistleBook$Text") true := ⟨_, _, _, _, cls_X11, by decide, rfl, rfl, Or.inl (TT_of (i := 498) (by decide +kernel) rfl)⟩
theorem ff_X11_21 : FLF RX11 21 10 1 (.object "WhistleBook$Text") := ⟨_, _, _, _, cls_X11, by decide, rfl, rfl, TT_of (i := 498) (by decide +kernel) rfl, rfl⟩
theorem fl_X11_28 : FL RX11 28 10 2 (.object "WhistleBook$Book") true := ⟨_, _, _, _, cls_X11, by decide, rfl, rfl, Or.inl (TT_of (i := 499) (by decide +kernel) rfl)⟩
theorem ff_X11_28 : FLF RX11 28 10 2 (.object "WhistleBook$Book") := ⟨_, _, _, _, cls_X11, by decide, rfl, rfl, TT_of (i := 499) (by decide +kernel) rfl, rfl⟩
theorem fl_X11_32 : FL RX11 32 10 3 (.object "WhistleBook$Book") true := ⟨_, _, _, _, cls_X11, by decide, rfl, rfl, Or.inl (TT_of (i := 500) (by decide +kernel) rfl)⟩
theorem ff_X11_32 : FLF RX11 32 10 3 (.object "WhistleBook$Book") := ⟨_, _, _, _, cls_X11, by decide, rfl, rfl, TT_of (i := 500) (by decide +kernel) rfl, rfl⟩
theorem fl_X11_346 : FL RX11 346 10 4 (.boolean) false := ⟨_, _, _, _, cls_X11, by decide, rfl, rfl, Or.inl (TT_of (i := 501) (by decide +kernel) rfl)⟩
theorem fl_X11_40 : FL RX11 40 10 5 (.object "WhistleBook$Bench") true := ⟨_, _, _, _, cls_X11, by decide, rfl, rfl, Or.inl (TT_of (i := 502) (by decide +kernel) rfl)⟩
theorem ff_X11_40 : FLF RX11 40 10 5 (.object "WhistleBook$Bench") := ⟨_, _, _, _, cls_X11, by decide, rfl, rfl, TT_of (i := 502) (by decide +kernel) rfl, rfl⟩
theorem fl_X11_49 : FL RX11 49 10 6 (.object "WhistleBook$Lesson") true := ⟨_, _, _, _, cls_X11, by decide, rfl, rfl, Or.inl (TT_of (i := 503) (by decide +kernel) rfl)⟩
theorem ff_X11_49 : FLF RX11 49 10 6 (.object "WhistleBook$Lesson") := ⟨_, _, _, _, cls_X11, by decide, rfl, rfl, TT_of (i := 503) (by decide +kernel) rfl, rfl⟩
theorem fl_X11_56 : FL RX11 56 10 7 (.object "WhistleBook$Course") true := ⟨_, _, _, _, cls_X11, by decide, rfl, rfl, Or.inl (TT_of (i := 504) (by decide +kernel) rfl)⟩
theorem ff_X11_56 : FLF RX11 56 10 7 (.object "WhistleBook$Course") := ⟨_, _, _, _, cls_X11, by decide, rfl, rfl, TT_of (i := 504) (by decide +kernel) rfl, rfl⟩
theorem fl_X11_63 : FL RX11 63 10 8 (.object "WhistleBook$Rest") true := ⟨_, _, _, _, cls_X11, by decide, rfl, rfl, Or.inl (TT_of (i := 505) (by decide +kernel) rfl)⟩
theorem ff_X11_63 : FLF RX11 63 10 8 (.object "WhistleBook$Rest") := ⟨_, _, _, _, cls_X11, by decide, rfl, rfl, TT_of (i := 505) (by decide +kernel) rfl, rfl⟩
theorem lk_L_144 : Cond.methodLink RL 144 yX11_feed ∈ TT := TT_of (i := 525) (by decide +kernel) rfl
theorem lk_X11_71 : Cond.methodLink RX11 71 yX7_add ∈ TT := TT_of (i := 529) (by decide +kernel) rfl
theorem lk_X7_41 : Cond.methodLink RX7 41 yX6_put ∈ TT := TT_of (i := 533) (by decide +kernel) rfl
theorem lk_L_148 : Cond.methodLink RL 148 yX11_end ∈ TT := TT_of (i := 536) (by decide +kernel) rfl
theorem lk_X11_75 : Cond.methodLink RX11 75 yX11_within ∈ TT := TT_of (i := 540) (by decide +kernel) rfl
theorem lk_L_168 : Cond.methodLink RL 168 yX11_fault ∈ TT := TT_of (i := 543) (by decide +kernel) rfl
theorem lk_L_184 : Cond.methodLink RL 184 yX11_goal ∈ TT := TT_of (i := 547) (by decide +kernel) rfl
theorem lk_X11_167 : Cond.methodLink RX11 167 yX0_goalWorthAt ∈ TT := TT_of (i := 551) (by decide +kernel) rfl
theorem lk_X0_41 : Cond.methodLink RX0 41 yX6_put ∈ TT := TT_of (i := 555) (by decide +kernel) rfl
theorem lk_X0_53 : Cond.methodLink RX0 53 yJ9_max_7cf53 ∈ TT := TT_of (i := 556) (by decide +kernel) rfl
theorem lk_X0_67 : Cond.methodLink RX0 67 yX2_total ∈ TT := TT_of (i := 559) (by decide +kernel) rfl
theorem lk_X2_34 : Cond.methodLink RX2 34 yX2_holds ∈ TT := TT_of (i := 563) (by decide +kernel) rfl
theorem lk_X2_38 : Cond.methodLink RX2 38 yX6_at ∈ TT := TT_of (i := 567) (by decide +kernel) rfl
theorem lk_X2_42 : Cond.methodLink RX2 42 yX6_put ∈ TT := TT_of (i := 570) (by decide +kernel) rfl
theorem lk_X2_46 : Cond.methodLink RX2 46 yX2_joined ∈ TT := TT_of (i := 571) (by decide +kernel) rfl
theorem lk_X0_73 : Cond.methodLink RX0 73 yJ9_min_7cf53 ∈ TT := TT_of (i := 574) (by decide +kernel) rfl
theorem lk_L_283 : Cond.methodLink RL 283 yX11_image ∈ TT := TT_of (i := 577) (by decide +kernel) rfl
theorem lk_X11_96 : Cond.methodLink RX11 96 yX1_copy ∈ TT := TT_of (i := 581) (by decide +kernel) rfl
theorem lk_X1_48 : Cond.methodLink RX1 48 yX6_copy ∈ TT := TT_of (i := 585) (by decide +kernel) rfl
theorem lk_L_287 : Cond.methodLink RL 287 yX11_back ∈ TT := TT_of (i := 588) (by decide +kernel) rfl
theorem lk_L_292 : Cond.methodLink RL 292 yX11_count ∈ TT := TT_of (i := 592) (by decide +kernel) rfl
theorem lk_X11_349 : Cond.methodLink RX11 349 yX1_livelyStates ∈ TT := TT_of (i := 596) (by decide +kernel) rfl
theorem lk_X1_91 : Cond.methodLink RX1 91 yX1_chancesTogether ∈ TT := TT_of (i := 600) (by decide +kernel) rfl
theorem lk_X1_87 : Cond.methodLink RX1 87 yX1_chance ∈ TT := TT_of (i := 604) (by decide +kernel) rfl
theorem lk_X1_79 : Cond.methodLink RX1 79 yX6_at ∈ TT := TT_of (i := 608) (by decide +kernel) rfl
theorem lk_X11_337 : Cond.methodLink RX11 337 yX1_ratesTogether ∈ TT := TT_of (i := 609) (by decide +kernel) rfl
theorem lk_X1_95 : Cond.methodLink RX1 95 yX1_ratesOf ∈ TT := TT_of (i := 613) (by decide +kernel) rfl
theorem lk_X1_98 : Cond.methodLink RX1 98 yX1_rateOf ∈ TT := TT_of (i := 617) (by decide +kernel) rfl
theorem lk_L_153 : Cond.methodLink RL 153 yL_game ∈ TT := TT_of (i := 621) (by decide +kernel) rfl
theorem lk_L_7 : Cond.methodLink RL 7 yX11_game ∈ TT := TT_of (i := 626) (by decide +kernel) rfl
theorem lk_X11_79 : Cond.methodLink RX11 79 yX8_readGame ∈ TT := TT_of (i := 630) (by decide +kernel) rfl
theorem lk_X8_35 : Cond.methodLink RX8 35 yX1_copy ∈ TT := TT_of (i := 634) (by decide +kernel) rfl
theorem lk_X8_39 : Cond.methodLink RX8 39 yX8_read ∈ TT := TT_of (i := 635) (by decide +kernel) rfl
theorem lk_X8_51 : Cond.methodLink RX8 51 yX7_findThings ∈ TT := TT_of (i := 639) (by decide +kernel) rfl
theorem lk_X7_50 : Cond.methodLink RX7 50 yX6_at ∈ TT := TT_of (i := 643) (by decide +kernel) rfl
theorem lk_X7_54 : Cond.methodLink RX7 54 yX7_endOfThing ∈ TT := TT_of (i := 644) (by decide +kernel) rfl
theorem lk_X7_67 : Cond.methodLink RX7 67 yX7_isLetter ∈ TT := TT_of (i := 648) (by decide +kernel) rfl
theorem lk_X7_71 : Cond.methodLink RX7 71 yX7_isDigit ∈ TT := TT_of (i := 651) (by decide +kernel) rfl
theorem lk_X7_58 : Cond.methodLink RX7 58 yX7_addThing ∈ TT := TT_of (i := 654) (by decide +kernel) rfl
theorem lk_X7_74 : Cond.methodLink RX7 74 yX7_numberOf ∈ TT := TT_of (i := 658) (by decide +kernel) rfl
theorem lk_X7_78 : Cond.methodLink RX7 78 yX10_of ∈ TT := TT_of (i := 662) (by decide +kernel) rfl
theorem lk_X10_105 : Cond.methodLink RX10 105 yX10_stands ∈ TT := TT_of (i := 667) (by decide +kernel) rfl
theorem lk_X10_109 : Cond.methodLink RX10 109 yJ0_length_8abf5 ∈ TT := TT_of (i := 672) (by decide +kernel) rfl
theorem lk_X10_115 : Cond.methodLink RX10 115 yX6_at ∈ TT := TT_of (i := 682) (by decide +kernel) rfl
theorem lk_X10_121 : Cond.methodLink RX10 121 yJ0_charAt_5068e ∈ TT := TT_of (i := 683) (by decide +kernel) rfl
theorem lk_X7_64 : Cond.methodLink RX7 64 yX7_next ∈ TT := TT_of (i := 722) (by decide +kernel) rfl
theorem lk_X8_66 : Cond.methodLink RX8 66 yX7_atEnd ∈ TT := TT_of (i := 726) (by decide +kernel) rfl
theorem lk_X8_69 : Cond.methodLink RX8 69 yX8_readGameLine ∈ TT := TT_of (i := 730) (by decide +kernel) rfl
theorem lk_X8_47 : Cond.methodLink RX8 47 yX8_wrong ∈ TT := TT_of (i := 740) (by decide +kernel) rfl
theorem lk_X8_92 : Cond.methodLink RX8 92 yX7_next ∈ TT := TT_of (i := 744) (by decide +kernel) rfl
theorem lk_X8_112 : Cond.methodLink RX8 112 yX8_readChance ∈ TT := TT_of (i := 745) (by decide +kernel) rfl
theorem lk_X8_121 : Cond.methodLink RX8 121 yX8_takeState ∈ TT := TT_of (i := 749) (by decide +kernel) rfl
theorem lk_X8_138 : Cond.methodLink RX8 138 yX8_takeNumber ∈ TT := TT_of (i := 753) (by decide +kernel) rfl
theorem lk_X8_134 : Cond.methodLink RX8 134 yX8_takeWord ∈ TT := TT_of (i := 763) (by decide +kernel) rfl
theorem lk_X8_141 : Cond.methodLink RX8 141 yX1_setChance ∈ TT := TT_of (i := 767) (by decide +kernel) rfl
theorem lk_X1_83 : Cond.methodLink RX1 83 yX6_put ∈ TT := TT_of (i := 771) (by decide +kernel) rfl
theorem lk_X8_115 : Cond.methodLink RX8 115 yX8_readKick ∈ TT := TT_of (i := 772) (by decide +kernel) rfl
theorem lk_X8_148 : Cond.methodLink RX8 148 yX6_put ∈ TT := TT_of (i := 776) (by decide +kernel) rfl
theorem lk_X8_118 : Cond.methodLink RX8 118 yX8_readGrace ∈ TT := TT_of (i := 777) (by decide +kernel) rfl
theorem lk_X8_72 : Cond.methodLink RX8 72 yX8_readGoalLine ∈ TT := TT_of (i := 781) (by decide +kernel) rfl
theorem lk_X8_181 : Cond.methodLink RX8 181 yX8_factHere ∈ TT := TT_of (i := 789) (by decide +kernel) rfl
theorem lk_X8_169 : Cond.methodLink RX8 169 yX8_readCondition ∈ TT := TT_of (i := 795) (by decide +kernel) rfl
theorem lk_X8_184 : Cond.methodLink RX8 184 yX8_readAll ∈ TT := TT_of (i := 799) (by decide +kernel) rfl
theorem lk_X8_194 : Cond.methodLink RX8 194 yX8_readAtom ∈ TT := TT_of (i := 803) (by decide +kernel) rfl
theorem lk_X8_203 : Cond.methodLink RX8 203 yX8_readDeeper ∈ TT := TT_of (i := 809) (by decide +kernel) rfl
theorem lk_X8_78 : Cond.methodLink RX8 78 yX8_takeSign ∈ TT := TT_of (i := 813) (by decide +kernel) rfl
theorem lk_X8_190 : Cond.methodLink RX8 190 yX8_addCell ∈ TT := TT_of (i := 817) (by decide +kernel) rfl
theorem lk_X8_209 : Cond.methodLink RX8 209 yX8_readSum ∈ TT := TT_of (i := 823) (by decide +kernel) rfl
theorem lk_X8_172 : Cond.methodLink RX8 172 yX8_setHead ∈ TT := TT_of (i := 831) (by decide +kernel) rfl
theorem lk_X8_75 : Cond.methodLink RX8 75 yX8_readRuleLine ∈ TT := TT_of (i := 835) (by decide +kernel) rfl
theorem lk_X8_43 : Cond.methodLink RX8 43 yX1_chancesTogether ∈ TT := TT_of (i := 845) (by decide +kernel) rfl
theorem lk_X11_83 : Cond.methodLink RX11 83 yX11_requireNumber ∈ TT := TT_of (i := 846) (by decide +kernel) rfl
theorem lk_X11_90 : Cond.methodLink RX11 90 yX11_requireRoom ∈ TT := TT_of (i := 913) (by decide +kernel) rfl
theorem lk_L_162 : Cond.methodLink RL 162 yL_goals ∈ TT := TT_of (i := 931) (by decide +kernel) rfl
theorem lk_L_17 : Cond.methodLink RL 17 yX11_goals ∈ TT := TT_of (i := 934) (by decide +kernel) rfl
theorem lk_X11_99 : Cond.methodLink RX11 99 yX8_read ∈ TT := TT_of (i := 938) (by decide +kernel) rfl
theorem lk_X11_103 : Cond.methodLink RX11 103 yX8_made ∈ TT := TT_of (i := 939) (by decide +kernel) rfl
theorem nl_X8_18 : NL RX8 18 2 3 [.int 0, .null, .null] := ⟨_, _, _, cls_X2, TT_of (i := 943) (by decide +kernel) rfl, TT_of (i := 192) (by decide +kernel) rfl, TT_of (i := 98) (by decide +kernel) rfl, by intro j hj; revert j; decide +kernel, by intro v hv a; revert v; simp⟩
theorem lk_X8_82 : Cond.methodLink RX8 82 yX2_init ∈ TT := TT_of (i := 944) (by decide +kernel) rfl
theorem lk_X2_15 : Cond.methodLink RX2 15 yJ9_max_7cf53 ∈ TT := TT_of (i := 947) (by decide +kernel) rfl
theorem lk_X2_28 : Cond.methodLink RX2 28 yX6_copy ∈ TT := TT_of (i := 948) (by decide +kernel) rfl
theorem lk_L_165 : Cond.methodLink RL 165 yL_rule ∈ TT := TT_of (i := 949) (by decide +kernel) rfl
theorem lk_L_20 : Cond.methodLink RL 20 yX11_rule ∈ TT := TT_of (i := 952) (by decide +kernel) rfl
theorem lk_X11_123 : Cond.methodLink RX11 123 yX1_addRule ∈ TT := TT_of (i := 956) (by decide +kernel) rfl
theorem lk_L_172 : Cond.methodLink RL 172 yL_follows ∈ TT := TT_of (i := 960) (by decide +kernel) rfl
theorem lk_L_23 : Cond.methodLink RL 23 yX11_follows ∈ TT := TT_of (i := 965) (by decide +kernel) rfl
theorem lk_X11_130 : Cond.methodLink RX11 130 yX11_isState ∈ TT := TT_of (i := 969) (by decide +kernel) rfl
theorem lk_X11_133 : Cond.methodLink RX11 133 yX11_requirePlace ∈ TT := TT_of (i := 972) (by decide +kernel) rfl
theorem lk_X11_136 : Cond.methodLink RX11 136 yX11_requireWhat ∈ TT := TT_of (i := 990) (by decide +kernel) rfl
theorem lk_X11_140 : Cond.methodLink RX11 140 yX1_chancesTogether ∈ TT := TT_of (i := 1008) (by decide +kernel) rfl
theorem lk_X11_144 : Cond.methodLink RX11 144 yX1_chance ∈ TT := TT_of (i := 1009) (by decide +kernel) rfl
theorem lk_L_176 : Cond.methodLink RL 176 yL_kick ∈ TT := TT_of (i := 1010) (by decide +kernel) rfl
theorem lk_L_31 : Cond.methodLink RL 31 yX11_kick ∈ TT := TT_of (i := 1013) (by decide +kernel) rfl
theorem lk_X11_148 : Cond.methodLink RX11 148 yX11_isZone ∈ TT := TT_of (i := 1017) (by decide +kernel) rfl
theorem lk_X11_155 : Cond.methodLink RX11 155 yX6_at ∈ TT := TT_of (i := 1020) (by decide +kernel) rfl
theorem lk_L_180 : Cond.methodLink RL 180 yL_now ∈ TT := TT_of (i := 1021) (by decide +kernel) rfl
theorem lk_L_35 : Cond.methodLink RL 35 yX11_now ∈ TT := TT_of (i := 1024) (by decide +kernel) rfl
theorem lk_L_188 : Cond.methodLink RL 188 yL_lost ∈ TT := TT_of (i := 1028) (by decide +kernel) rfl
theorem lk_L_39 : Cond.methodLink RL 39 yX11_lost ∈ TT := TT_of (i := 1031) (by decide +kernel) rfl
theorem lk_L_192 : Cond.methodLink RL 192 yL_horizon ∈ TT := TT_of (i := 1035) (by decide +kernel) rfl
theorem lk_L_43 : Cond.methodLink RL 43 yX11_horizon ∈ TT := TT_of (i := 1038) (by decide +kernel) rfl
theorem lk_L_195 : Cond.methodLink RL 195 yL_grace ∈ TT := TT_of (i := 1042) (by decide +kernel) rfl
theorem lk_L_46 : Cond.methodLink RL 46 yX11_grace ∈ TT := TT_of (i := 1045) (by decide +kernel) rfl
theorem lk_L_198 : Cond.methodLink RL 198 yL_sort ∈ TT := TT_of (i := 1049) (by decide +kernel) rfl
theorem lk_L_49 : Cond.methodLink RL 49 yX11_sort ∈ TT := TT_of (i := 1052) (by decide +kernel) rfl
theorem lk_X11_182 : Cond.methodLink RX11 182 yX1_addSort ∈ TT := TT_of (i := 1056) (by decide +kernel) rfl
theorem lk_L_201 : Cond.methodLink RL 201 yL_patience ∈ TT := TT_of (i := 1060) (by decide +kernel) rfl
theorem lk_L_52 : Cond.methodLink RL 52 yX11_patience ∈ TT := TT_of (i := 1063) (by decide +kernel) rfl
theorem lk_L_204 : Cond.methodLink RL 204 yL_worth ∈ TT := TT_of (i := 1067) (by decide +kernel) rfl
theorem lk_L_55 : Cond.methodLink RL 55 yX11_worth ∈ TT := TT_of (i := 1070) (by decide +kernel) rfl
theorem lk_X11_188 : Cond.methodLink RX11 188 yX0_open ∈ TT := TT_of (i := 1074) (by decide +kernel) rfl
theorem lk_X0_76 : Cond.methodLink RX0 76 yX0_goalWorthAt ∈ TT := TT_of (i := 1078) (by decide +kernel) rfl
theorem lk_X0_89 : Cond.methodLink RX0 89 yX9_read ∈ TT := TT_of (i := 1079) (by decide +kernel) rfl
theorem lk_X9_30 : Cond.methodLink RX9 30 yX6_put ∈ TT := TT_of (i := 1083) (by decide +kernel) rfl
theorem lk_X9_36 : Cond.methodLink RX9 36 yX1_chance ∈ TT := TT_of (i := 1084) (by decide +kernel) rfl
theorem lk_X9_41 : Cond.methodLink RX9 41 yX1_chancesTogether ∈ TT := TT_of (i := 1085) (by decide +kernel) rfl
theorem lk_X0_96 : Cond.methodLink RX0 96 yX9_mix ∈ TT := TT_of (i := 1086) (by decide +kernel) rfl
theorem lk_X9_45 : Cond.methodLink RX9 45 yX6_at ∈ TT := TT_of (i := 1090) (by decide +kernel) rfl
theorem lk_X9_49 : Cond.methodLink RX9 49 yJ9_floorDiv_7cf53 ∈ TT := TT_of (i := 1091) (by decide +kernel) rfl
theorem lk_X11_191 : Cond.methodLink RX11 191 yX0_lettingOn ∈ TT := TT_of (i := 1094) (by decide +kernel) rfl
theorem lk_X0_100 : Cond.methodLink RX0 100 yX6_at ∈ TT := TT_of (i := 1098) (by decide +kernel) rfl
theorem lk_L_207 : Cond.methodLink RL 207 yL_stop ∈ TT := TT_of (i := 1099) (by decide +kernel) rfl
theorem lk_L_59 : Cond.methodLink RL 59 yX11_stop ∈ TT := TT_of (i := 1102) (by decide +kernel) rfl
theorem lk_X11_194 : Cond.methodLink RX11 194 yX11_requireFoul ∈ TT := TT_of (i := 1106) (by decide +kernel) rfl
theorem lk_X11_245 : Cond.methodLink RX11 245 yX11_isSort ∈ TT := TT_of (i := 1110) (by decide +kernel) rfl
theorem lk_X11_197 : Cond.methodLink RX11 197 yX1_cardNow ∈ TT := TT_of (i := 1114) (by decide +kernel) rfl
theorem lk_X11_200 : Cond.methodLink RX11 200 yX1_afterwards ∈ TT := TT_of (i := 1118) (by decide +kernel) rfl
theorem lk_X11_203 : Cond.methodLink RX11 203 yX1_stopWorth ∈ TT := TT_of (i := 1122) (by decide +kernel) rfl
theorem lk_L_211 : Cond.methodLink RL 211 yL_judge ∈ TT := TT_of (i := 1126) (by decide +kernel) rfl
theorem lk_L_63 : Cond.methodLink RL 63 yX11_judge ∈ TT := TT_of (i := 1129) (by decide +kernel) rfl
theorem lk_X11_206 : Cond.methodLink RX11 206 yX11_requireJudge ∈ TT := TT_of (i := 1133) (by decide +kernel) rfl
theorem lk_X11_209 : Cond.methodLink RX11 209 yX11_isBarFor ∈ TT := TT_of (i := 1137) (by decide +kernel) rfl
theorem lk_X11_212 : Cond.methodLink RX11 212 yX11_seat ∈ TT := TT_of (i := 1140) (by decide +kernel) rfl
theorem lk_X11_222 : Cond.methodLink RX11 222 yX0_seat ∈ TT := TT_of (i := 1144) (by decide +kernel) rfl
theorem lk_X11_241 : Cond.methodLink RX11 241 yX0_lay ∈ TT := TT_of (i := 1148) (by decide +kernel) rfl
theorem lk_X0_116 : Cond.methodLink RX0 116 yX1_stopWorth ∈ TT := TT_of (i := 1152) (by decide +kernel) rfl
theorem lk_X0_121 : Cond.methodLink RX0 121 yX1_afterwards ∈ TT := TT_of (i := 1153) (by decide +kernel) rfl
theorem lk_X0_133 : Cond.methodLink RX0 133 yX0_decide ∈ TT := TT_of (i := 1154) (by decide +kernel) rfl
theorem lk_X0_140 : Cond.methodLink RX0 140 yX0_lettingOn ∈ TT := TT_of (i := 1158) (by decide +kernel) rfl
theorem lk_X0_143 : Cond.methodLink RX0 143 yX0_wish ∈ TT := TT_of (i := 1159) (by decide +kernel) rfl
theorem lk_X0_147 : Cond.methodLink RX0 147 yX1_ruleOf ∈ TT := TT_of (i := 1163) (by decide +kernel) rfl
theorem lk_X0_151 : Cond.methodLink RX0 151 yX2_deed ∈ TT := TT_of (i := 1167) (by decide +kernel) rfl
theorem lk_X11_216 : Cond.methodLink RX11 216 yX0_worthAt ∈ TT := TT_of (i := 1171) (by decide +kernel) rfl
theorem lk_L_215 : Cond.methodLink RL 215 yL_does ∈ TT := TT_of (i := 1175) (by decide +kernel) rfl
theorem lk_L_67 : Cond.methodLink RL 67 yX11_does ∈ TT := TT_of (i := 1178) (by decide +kernel) rfl
theorem lk_X11_219 : Cond.methodLink RX11 219 yX0_deedAt ∈ TT := TT_of (i := 1182) (by decide +kernel) rfl
theorem lk_L_218 : Cond.methodLink RL 218 yL_waits ∈ TT := TT_of (i := 1186) (by decide +kernel) rfl
theorem lk_L_71 : Cond.methodLink RL 71 yX11_waits ∈ TT := TT_of (i := 1189) (by decide +kernel) rfl
theorem lk_X11_224 : Cond.methodLink RX11 224 yX11_bestBy ∈ TT := TT_of (i := 1193) (by decide +kernel) rfl
theorem lk_L_222 : Cond.methodLink RL 222 yL_enough ∈ TT := TT_of (i := 1197) (by decide +kernel) rfl
theorem lk_L_75 : Cond.methodLink RL 75 yX11_enough ∈ TT := TT_of (i := 1200) (by decide +kernel) rfl
theorem lk_L_225 : Cond.methodLink RL 225 yL_loses ∈ TT := TT_of (i := 1204) (by decide +kernel) rfl
theorem lk_L_79 : Cond.methodLink RL 79 yX11_loses ∈ TT := TT_of (i := 1207) (by decide +kernel) rfl
theorem lk_X11_228 : Cond.methodLink RX11 228 yX0_worthTogether ∈ TT := TT_of (i := 1211) (by decide +kernel) rfl
theorem lk_X0_154 : Cond.methodLink RX0 154 yX0_worthAt ∈ TT := TT_of (i := 1215) (by decide +kernel) rfl
theorem lk_L_229 : Cond.methodLink RL 229 yL_part ∈ TT := TT_of (i := 1216) (by decide +kernel) rfl
theorem lk_L_83 : Cond.methodLink RL 83 yX11_part ∈ TT := TT_of (i := 1219) (by decide +kernel) rfl
theorem lk_X11_231 : Cond.methodLink RX11 231 yX0_keepDeeds ∈ TT := TT_of (i := 1223) (by decide +kernel) rfl
theorem lk_X0_157 : Cond.methodLink RX0 157 yX6_copy ∈ TT := TT_of (i := 1227) (by decide +kernel) rfl
theorem lk_X11_234 : Cond.methodLink RX11 234 yX0_firstOtherDeed ∈ TT := TT_of (i := 1228) (by decide +kernel) rfl
theorem lk_X11_238 : Cond.methodLink RX11 238 yX0_otherDeeds ∈ TT := TT_of (i := 1232) (by decide +kernel) rfl
theorem lk_L_233 : Cond.methodLink RL 233 yL_bar ∈ TT := TT_of (i := 1236) (by decide +kernel) rfl
theorem lk_L_87 : Cond.methodLink RL 87 yX11_bar ∈ TT := TT_of (i := 1239) (by decide +kernel) rfl
theorem lk_L_236 : Cond.methodLink RL 236 yL_pays ∈ TT := TT_of (i := 1243) (by decide +kernel) rfl
theorem lk_L_90 : Cond.methodLink RL 90 yX11_pays ∈ TT := TT_of (i := 1246) (by decide +kernel) rfl
theorem lk_X11_248 : Cond.methodLink RX11 248 yX0_paying ∈ TT := TT_of (i := 1250) (by decide +kernel) rfl
theorem lk_X0_161 : Cond.methodLink RX0 161 yX0_lay ∈ TT := TT_of (i := 1254) (by decide +kernel) rfl
theorem lk_X0_165 : Cond.methodLink RX0 165 yX0_gain ∈ TT := TT_of (i := 1255) (by decide +kernel) rfl
theorem lk_L_239 : Cond.methodLink RL 239 yL_least ∈ TT := TT_of (i := 1259) (by decide +kernel) rfl
theorem lk_L_93 : Cond.methodLink RL 93 yX11_least ∈ TT := TT_of (i := 1262) (by decide +kernel) rfl
theorem lk_X11_252 : Cond.methodLink RX11 252 yX11_leastCard ∈ TT := TT_of (i := 1266) (by decide +kernel) rfl
theorem lk_L_243 : Cond.methodLink RL 243 yL_rate ∈ TT := TT_of (i := 1270) (by decide +kernel) rfl
theorem lk_L_97 : Cond.methodLink RL 97 yX11_rate ∈ TT := TT_of (i := 1273) (by decide +kernel) rfl
theorem lk_X11_255 : Cond.methodLink RX11 255 yX1_rateOf ∈ TT := TT_of (i := 1277) (by decide +kernel) rfl
theorem lk_X11_258 : Cond.methodLink RX11 258 yX1_setRate ∈ TT := TT_of (i := 1278) (by decide +kernel) rfl
theorem lk_L_246 : Cond.methodLink RL 246 yL_often ∈ TT := TT_of (i := 1282) (by decide +kernel) rfl
theorem lk_L_100 : Cond.methodLink RL 100 yX11_often ∈ TT := TT_of (i := 1285) (by decide +kernel) rfl
theorem lk_L_249 : Cond.methodLink RL 249 yL_match ∈ TT := TT_of (i := 1289) (by decide +kernel) rfl
theorem lk_L_103 : Cond.methodLink RL 103 yX11_match ∈ TT := TT_of (i := 1292) (by decide +kernel) rfl
theorem lk_X11_261 : Cond.methodLink RX11 261 yX11_matchSum ∈ TT := TT_of (i := 1296) (by decide +kernel) rfl
theorem lk_X11_370 : Cond.methodLink RX11 370 yX1_anyRate ∈ TT := TT_of (i := 1300) (by decide +kernel) rfl
theorem lk_X11_373 : Cond.methodLink RX11 373 yX0_stoppedRates ∈ TT := TT_of (i := 1304) (by decide +kernel) rfl
theorem lk_X0_171 : Cond.methodLink RX0 171 yX0_deedAt ∈ TT := TT_of (i := 1308) (by decide +kernel) rfl
theorem lk_X0_168 : Cond.methodLink RX0 168 yX1_rateOf ∈ TT := TT_of (i := 1309) (by decide +kernel) rfl
theorem lk_X11_376 : Cond.methodLink RX11 376 yX0_ratedWorth ∈ TT := TT_of (i := 1310) (by decide +kernel) rfl
theorem cn_X11_265 : Cond.constantLong RX11 265 (9) ∈ TT := TT_of (i := 1314) (by decide +kernel) rfl
theorem lk_X11_267 : Cond.methodLink RX11 267 yJ9_floorDiv_f86c9 ∈ TT := TT_of (i := 1315) (by decide +kernel) rfl
theorem lk_L_252 : Cond.methodLink RL 252 yL_learn ∈ TT := TT_of (i := 1318) (by decide +kernel) rfl
theorem lk_L_107 : Cond.methodLink RL 107 yX11_learn ∈ TT := TT_of (i := 1321) (by decide +kernel) rfl
theorem lk_X11_273 : Cond.methodLink RX11 273 yX4_begin ∈ TT := TT_of (i := 1325) (by decide +kernel) rfl
theorem lk_X4_34 : Cond.methodLink RX4 34 yX6_copy ∈ TT := TT_of (i := 1329) (by decide +kernel) rfl
theorem lk_X4_40 : Cond.methodLink RX4 40 yX6_put ∈ TT := TT_of (i := 1330) (by decide +kernel) rfl
theorem cn_X4_44 : Cond.constant RX4 44 (100000) ∈ TT := TT_of (i := 1331) (by decide +kernel) rfl
theorem lk_X11_276 : Cond.methodLink RX11 276 yX4_roundChanges ∈ TT := TT_of (i := 1332) (by decide +kernel) rfl
theorem lk_X4_49 : Cond.methodLink RX4 49 yX1_rateOf ∈ TT := TT_of (i := 1336) (by decide +kernel) rfl
theorem lk_X4_53 : Cond.methodLink RX4 53 yX4_isWorthIt ∈ TT := TT_of (i := 1337) (by decide +kernel) rfl
theorem lk_X4_66 : Cond.methodLink RX4 66 yX1_cardNow ∈ TT := TT_of (i := 1341) (by decide +kernel) rfl
theorem lk_X4_70 : Cond.methodLink RX4 70 yX6_at ∈ TT := TT_of (i := 1342) (by decide +kernel) rfl
theorem lk_X4_74 : Cond.methodLink RX4 74 yX0_lay ∈ TT := TT_of (i := 1343) (by decide +kernel) rfl
theorem lk_X4_79 : Cond.methodLink RX4 79 yX0_gain ∈ TT := TT_of (i := 1344) (by decide +kernel) rfl
theorem lk_X4_57 : Cond.methodLink RX4 57 yJ9_min_7cf53 ∈ TT := TT_of (i := 1345) (by decide +kernel) rfl
theorem lk_X4_62 : Cond.methodLink RX4 62 yX1_setRate ∈ TT := TT_of (i := 1346) (by decide +kernel) rfl
theorem lk_X11_280 : Cond.methodLink RX11 280 yX4_undo ∈ TT := TT_of (i := 1347) (by decide +kernel) rfl
theorem lk_L_255 : Cond.methodLink RL 255 yL_two ∈ TT := TT_of (i := 1351) (by decide +kernel) rfl
theorem lk_L_110 : Cond.methodLink RL 110 yX11_two ∈ TT := TT_of (i := 1354) (by decide +kernel) rfl
theorem cn_X11_283 : Cond.constantLong RX11 283 (2) ∈ TT := TT_of (i := 1358) (by decide +kernel) rfl
theorem lk_L_258 : Cond.methodLink RL 258 yL_leans ∈ TT := TT_of (i := 1359) (by decide +kernel) rfl
theorem lk_L_114 : Cond.methodLink RL 114 yX11_leans ∈ TT := TT_of (i := 1362) (by decide +kernel) rfl
theorem lk_X11_285 : Cond.methodLink RX11 285 yX11_waysOf ∈ TT := TT_of (i := 1366) (by decide +kernel) rfl
theorem lk_L_262 : Cond.methodLink RL 262 yL_played ∈ TT := TT_of (i := 1369) (by decide +kernel) rfl
theorem lk_L_118 : Cond.methodLink RL 118 yX11_played ∈ TT := TT_of (i := 1372) (by decide +kernel) rfl
theorem lk_X11_292 : Cond.methodLink RX11 292 yX3_playFrom ∈ TT := TT_of (i := 1376) (by decide +kernel) rfl
theorem lk_X3_72 : Cond.methodLink RX3 72 yX0_deedAt ∈ TT := TT_of (i := 1380) (by decide +kernel) rfl
theorem lk_X3_89 : Cond.methodLink RX3 89 yX3_draw ∈ TT := TT_of (i := 1381) (by decide +kernel) rfl
theorem cn_X3_79 : Cond.constant RX3 79 (1103515245) ∈ TT := TT_of (i := 1385) (by decide +kernel) rfl
theorem lk_X3_93 : Cond.methodLink RX3 93 yX9_drawn ∈ TT := TT_of (i := 1386) (by decide +kernel) rfl
theorem lk_L_265 : Cond.methodLink RL 265 yL_ends ∈ TT := TT_of (i := 1390) (by decide +kernel) rfl
theorem lk_L_121 : Cond.methodLink RL 121 yX11_ends ∈ TT := TT_of (i := 1393) (by decide +kernel) rfl
theorem lk_X11_301 : Cond.methodLink RX11 301 yX3_ask ∈ TT := TT_of (i := 1397) (by decide +kernel) rfl
theorem cn_X3_26 : Cond.constant RX3 26 (1000000) ∈ TT := TT_of (i := 1401) (by decide +kernel) rfl
theorem lk_X3_48 : Cond.methodLink RX3 48 yX9_mix ∈ TT := TT_of (i := 1402) (by decide +kernel) rfl
theorem lk_X3_54 : Cond.methodLink RX3 54 yX6_put ∈ TT := TT_of (i := 1403) (by decide +kernel) rfl
theorem lk_X11_304 : Cond.methodLink RX11 304 yX3_share ∈ TT := TT_of (i := 1404) (by decide +kernel) rfl
theorem lk_X3_63 : Cond.methodLink RX3 63 yJ9_min_7cf53 ∈ TT := TT_of (i := 1408) (by decide +kernel) rfl
theorem lk_X3_69 : Cond.methodLink RX3 69 yX3_shareAt ∈ TT := TT_of (i := 1409) (by decide +kernel) rfl
theorem lk_X3_75 : Cond.methodLink RX3 75 yX6_at ∈ TT := TT_of (i := 1413) (by decide +kernel) rfl
theorem lk_X11_307 : Cond.methodLink RX11 307 yX3_shareFrom ∈ TT := TT_of (i := 1414) (by decide +kernel) rfl
theorem lk_L_268 : Cond.methodLink RL 268 yL_mean ∈ TT := TT_of (i := 1418) (by decide +kernel) rfl
theorem lk_L_124 : Cond.methodLink RL 124 yX11_mean ∈ TT := TT_of (i := 1421) (by decide +kernel) rfl
theorem lk_X11_310 : Cond.methodLink RX11 310 yX11_meanOf ∈ TT := TT_of (i := 1425) (by decide +kernel) rfl
theorem lk_L_271 : Cond.methodLink RL 271 yL_plain ∈ TT := TT_of (i := 1429) (by decide +kernel) rfl
theorem lk_L_127 : Cond.methodLink RL 127 yX11_plain ∈ TT := TT_of (i := 1432) (by decide +kernel) rfl
theorem lk_X11_313 : Cond.methodLink RX11 313 yX0_seatPlain ∈ TT := TT_of (i := 1436) (by decide +kernel) rfl
theorem lk_L_274 : Cond.methodLink RL 274 yL_right ∈ TT := TT_of (i := 1440) (by decide +kernel) rfl
theorem lk_L_130 : Cond.methodLink RL 130 yX11_right ∈ TT := TT_of (i := 1443) (by decide +kernel) rfl
theorem lk_X11_316 : Cond.methodLink RX11 316 yX0_keepWorths ∈ TT := TT_of (i := 1447) (by decide +kernel) rfl
theorem lk_X11_319 : Cond.methodLink RX11 319 yX0_statesAsKept ∈ TT := TT_of (i := 1451) (by decide +kernel) rfl
theorem lk_L_277 : Cond.methodLink RL 277 yL_rest ∈ TT := TT_of (i := 1455) (by decide +kernel) rfl
theorem lk_L_133 : Cond.methodLink RL 133 yX11_rest ∈ TT := TT_of (i := 1458) (by decide +kernel) rfl
theorem lk_X11_322 : Cond.methodLink RX11 322 yX5_weigh ∈ TT := TT_of (i := 1462) (by decide +kernel) rfl
theorem lk_X5_29 : Cond.methodLink RX5 29 yX0_seat ∈ TT := TT_of (i := 1466) (by decide +kernel) rfl
theorem lk_X5_35 : Cond.methodLink RX5 35 yX5_worstOfSeated ∈ TT := TT_of (i := 1467) (by decide +kernel) rfl
theorem lk_X5_57 : Cond.methodLink RX5 57 yX1_cardNow ∈ TT := TT_of (i := 1471) (by decide +kernel) rfl
theorem lk_X5_61 : Cond.methodLink RX5 61 yX0_lay ∈ TT := TT_of (i := 1472) (by decide +kernel) rfl
theorem lk_X5_65 : Cond.methodLink RX5 65 yX0_gain ∈ TT := TT_of (i := 1473) (by decide +kernel) rfl
theorem lk_X5_68 : Cond.methodLink RX5 68 yJ9_max_7cf53 ∈ TT := TT_of (i := 1474) (by decide +kernel) rfl
theorem lk_X5_45 : Cond.methodLink RX5 45 yX6_at ∈ TT := TT_of (i := 1475) (by decide +kernel) rfl
theorem lk_X5_74 : Cond.methodLink RX5 74 yJ9_min_7cf53 ∈ TT := TT_of (i := 1476) (by decide +kernel) rfl
theorem lk_X5_77 : Cond.methodLink RX5 77 yX6_put ∈ TT := TT_of (i := 1477) (by decide +kernel) rfl
theorem lk_L_280 : Cond.methodLink RL 280 yL_season ∈ TT := TT_of (i := 1478) (by decide +kernel) rfl
theorem lk_L_136 : Cond.methodLink RL 136 yX11_season ∈ TT := TT_of (i := 1481) (by decide +kernel) rfl
theorem lk_X11_340 : Cond.methodLink RX11 340 yX3_draw ∈ TT := TT_of (i := 1485) (by decide +kernel) rfl
theorem lk_X11_343 : Cond.methodLink RX11 343 yX1_rateHolding ∈ TT := TT_of (i := 1486) (by decide +kernel) rfl
theorem lk_L_159 : Cond.methodLink RL 159 yX12_thrown ∈ TT := TT_of (i := 1490) (by decide +kernel) rfl
theorem nl_L_141 : NL RL 141 11 36 [.int 0, .null, .null, .int 0, .null, .int 0, .int 0, .int 0, .int 0, .int 0, .int 0, .null, .int 0, .int 0, .null, .null, .int 0, .null, .null, .null, .int 0, .int 0, .int 0, .int 0, .int 0, .int 0, .null, .null, .null, .null, .null, .int 0, .null, .null, .null, .null] := ⟨_, _, _, cls_X12, TT_of (i := 1494) (by decide +kernel) rfl, TT_of (i := 1495) (by decide +kernel) rfl, TT_of (i := 104) (by decide +kernel) rfl, by intro j hj; revert j; decide +kernel, by intro v hv a; revert v; simp⟩
theorem lk_L_143 : Cond.methodLink RL 143 yX12_init ∈ TT := TT_of (i := 1496) (by decide +kernel) rfl
theorem lk_X12_7 : Cond.methodLink RX12 7 Lib.objectInit ∈ TT := TT_of (i := 1499) (by decide +kernel) rfl
theorem fl_X12_3 : FL RX12 3 11 0 (.int) false := ⟨_, _, _, _, cls_X12, by decide, rfl, rfl, Or.inl (TT_of (i := 1500) (by decide +kernel) rfl)⟩
theorem fl_X12_13 : FL RX12 13 11 1 (.array .int) true := ⟨_, _, _, _, cls_X12, by decide, rfl, rfl, Or.inl (TT_of (i := 1501) (by decide +kernel) rfl)⟩
theorem ff_X12_13 : FLF RX12 13 11 1 (.array .int) := ⟨_, _, _, _, cls_X12, by decide, rfl, rfl, TT_of (i := 1501) (by decide +kernel) rfl, rfl⟩
theorem fl_X12_17 : FL RX12 17 11 2 (.array .int) true := ⟨_, _, _, _, cls_X12, by decide, rfl, rfl, Or.inl (TT_of (i := 1502) (by decide +kernel) rfl)⟩
theorem ff_X12_17 : FLF RX12 17 11 2 (.array .int) := ⟨_, _, _, _, cls_X12, by decide, rfl, rfl, TT_of (i := 1502) (by decide +kernel) rfl, rfl⟩
theorem fl_X12_73 : FL RX12 73 11 3 (.boolean) false := ⟨_, _, _, _, cls_X12, by decide, rfl, rfl, Or.inl (TT_of (i := 1503) (by decide +kernel) rfl)⟩
theorem fl_X12_20 : FL RX12 20 11 4 (.array .byte) true := ⟨_, _, _, _, cls_X12, by decide, rfl, rfl, Or.inl (TT_of (i := 1504) (by decide +kernel) rfl)⟩
theorem ff_X12_20 : FLF RX12 20 11 4 (.array .byte) := ⟨_, _, _, _, cls_X12, by decide, rfl, rfl, TT_of (i := 1504) (by decide +kernel) rfl, rfl⟩
theorem fl_X12_81 : FL RX12 81 11 5 (.int) false := ⟨_, _, _, _, cls_X12, by decide, rfl, rfl, Or.inl (TT_of (i := 1505) (by decide +kernel) rfl)⟩
theorem fl_X12_84 : FL RX12 84 11 6 (.int) false := ⟨_, _, _, _, cls_X12, by decide, rfl, rfl, Or.inl (TT_of (i := 1506) (by decide +kernel) rfl)⟩
theorem fl_X12_87 : FL RX12 87 11 7 (.int) false := ⟨_, _, _, _, cls_X12, by decide, rfl, rfl, Or.inl (TT_of (i := 1507) (by decide +kernel) rfl)⟩
theorem fl_X12_94 : FL RX12 94 11 8 (.int) false := ⟨_, _, _, _, cls_X12, by decide, rfl, rfl, Or.inl (TT_of (i := 1508) (by decide +kernel) rfl)⟩
theorem fl_X12_159 : FL RX12 159 11 9 (.int) false := ⟨_, _, _, _, cls_X12, by decide, rfl, rfl, Or.inl (TT_of (i := 1509) (by decide +kernel) rfl)⟩
theorem fl_X12_24 : FL RX12 24 11 10 (.int) false := ⟨_, _, _, _, cls_X12, by decide, rfl, rfl, Or.inl (TT_of (i := 1510) (by decide +kernel) rfl)⟩
theorem fl_X12_27 : FL RX12 27 11 11 (.array .int) true := ⟨_, _, _, _, cls_X12, by decide, rfl, rfl, Or.inl (TT_of (i := 1511) (by decide +kernel) rfl)⟩
theorem ff_X12_27 : FLF RX12 27 11 11 (.array .int) := ⟨_, _, _, _, cls_X12, by decide, rfl, rfl, TT_of (i := 1511) (by decide +kernel) rfl, rfl⟩
theorem fl_X12_121 : FL RX12 121 11 12 (.int) false := ⟨_, _, _, _, cls_X12, by decide, rfl, rfl, Or.inl (TT_of (i := 1512) (by decide +kernel) rfl)⟩
theorem fl_X12_130 : FL RX12 130 11 13 (.int) false := ⟨_, _, _, _, cls_X12, by decide, rfl, rfl, Or.inl (TT_of (i := 1513) (by decide +kernel) rfl)⟩
theorem fl_X12_30 : FL RX12 30 11 14 (.array .int) true := ⟨_, _, _, _, cls_X12, by decide, rfl, rfl, Or.inl (TT_of (i := 1514) (by decide +kernel) rfl)⟩
theorem ff_X12_30 : FLF RX12 30 11 14 (.array .int) := ⟨_, _, _, _, cls_X12, by decide, rfl, rfl, TT_of (i := 1514) (by decide +kernel) rfl, rfl⟩
theorem fl_X12_33 : FL RX12 33 11 15 (.array .int) true := ⟨_, _, _, _, cls_X12, by decide, rfl, rfl, Or.inl (TT_of (i := 1515) (by decide +kernel) rfl)⟩
theorem ff_X12_33 : FLF RX12 33 11 15 (.array .int) := ⟨_, _, _, _, cls_X12, by decide, rfl, rfl, TT_of (i := 1515) (by decide +kernel) rfl, rfl⟩
theorem fl_X12_187 : FL RX12 187 11 16 (.int) false := ⟨_, _, _, _, cls_X12, by decide, rfl, rfl, Or.inl (TT_of (i := 1516) (by decide +kernel) rfl)⟩
theorem fl_X12_36 : FL RX12 36 11 17 (.array .int) true := ⟨_, _, _, _, cls_X12, by decide, rfl, rfl, Or.inl (TT_of (i := 1517) (by decide +kernel) rfl)⟩
theorem ff_X12_36 : FLF RX12 36 11 17 (.array .int) := ⟨_, _, _, _, cls_X12, by decide, rfl, rfl, TT_of (i := 1517) (by decide +kernel) rfl, rfl⟩
theorem fl_X12_39 : FL RX12 39 11 18 (.array .int) true := ⟨_, _, _, _, cls_X12, by decide, rfl, rfl, Or.inl (TT_of (i := 1518) (by decide +kernel) rfl)⟩
theorem ff_X12_39 : FLF RX12 39 11 18 (.array .int) := ⟨_, _, _, _, cls_X12, by decide, rfl, rfl, TT_of (i := 1518) (by decide +kernel) rfl, rfl⟩
theorem fl_X12_42 : FL RX12 42 11 19 (.array .long) true := ⟨_, _, _, _, cls_X12, by decide, rfl, rfl, Or.inl (TT_of (i := 1519) (by decide +kernel) rfl)⟩
theorem ff_X12_42 : FLF RX12 42 11 19 (.array .long) := ⟨_, _, _, _, cls_X12, by decide, rfl, rfl, TT_of (i := 1519) (by decide +kernel) rfl, rfl⟩
theorem fl_X12_288 : FL RX12 288 11 20 (.int) false := ⟨_, _, _, _, cls_X12, by decide, rfl, rfl, Or.inl (TT_of (i := 1520) (by decide +kernel) rfl)⟩
theorem fl_X12_285 : FL RX12 285 11 21 (.int) false := ⟨_, _, _, _, cls_X12, by decide, rfl, rfl, Or.inl (TT_of (i := 1521) (by decide +kernel) rfl)⟩
theorem fl_X12_308 : FL RX12 308 11 22 (.int) false := ⟨_, _, _, _, cls_X12, by decide, rfl, rfl, Or.inl (TT_of (i := 1522) (by decide +kernel) rfl)⟩
theorem fl_X12_311 : FL RX12 311 11 23 (.int) false := ⟨_, _, _, _, cls_X12, by decide, rfl, rfl, Or.inl (TT_of (i := 1523) (by decide +kernel) rfl)⟩
theorem fl_X12_305 : FL RX12 305 11 24 (.int) false := ⟨_, _, _, _, cls_X12, by decide, rfl, rfl, Or.inl (TT_of (i := 1524) (by decide +kernel) rfl)⟩
theorem fl_X12_314 : FL RX12 314 11 25 (.boolean) false := ⟨_, _, _, _, cls_X12, by decide, rfl, rfl, Or.inl (TT_of (i := 1525) (by decide +kernel) rfl)⟩
theorem fl_X12_46 : FL RX12 46 11 26 (.array .long) true := ⟨_, _, _, _, cls_X12, by decide, rfl, rfl, Or.inl (TT_of (i := 1526) (by decide +kernel) rfl)⟩
theorem ff_X12_46 : FLF RX12 46 11 26 (.array .long) := ⟨_, _, _, _, cls_X12, by decide, rfl, rfl, TT_of (i := 1526) (by decide +kernel) rfl, rfl⟩
theorem fl_X12_49 : FL RX12 49 11 27 (.array .int) true := ⟨_, _, _, _, cls_X12, by decide, rfl, rfl, Or.inl (TT_of (i := 1527) (by decide +kernel) rfl)⟩
theorem ff_X12_49 : FLF RX12 49 11 27 (.array .int) := ⟨_, _, _, _, cls_X12, by decide, rfl, rfl, TT_of (i := 1527) (by decide +kernel) rfl, rfl⟩
theorem fl_X12_52 : FL RX12 52 11 28 (.array .long) true := ⟨_, _, _, _, cls_X12, by decide, rfl, rfl, Or.inl (TT_of (i := 1528) (by decide +kernel) rfl)⟩
theorem ff_X12_52 : FLF RX12 52 11 28 (.array .long) := ⟨_, _, _, _, cls_X12, by decide, rfl, rfl, TT_of (i := 1528) (by decide +kernel) rfl, rfl⟩
theorem fl_X12_55 : FL RX12 55 11 29 (.array .int) true := ⟨_, _, _, _, cls_X12, by decide, rfl, rfl, Or.inl (TT_of (i := 1529) (by decide +kernel) rfl)⟩
theorem ff_X12_55 : FLF RX12 55 11 29 (.array .int) := ⟨_, _, _, _, cls_X12, by decide, rfl, rfl, TT_of (i := 1529) (by decide +kernel) rfl, rfl⟩
theorem fl_X12_58 : FL RX12 58 11 30 (.array .int) true := ⟨_, _, _, _, cls_X12, by decide, rfl, rfl, Or.inl (TT_of (i := 1530) (by decide +kernel) rfl)⟩
theorem ff_X12_58 : FLF RX12 58 11 30 (.array .int) := ⟨_, _, _, _, cls_X12, by decide, rfl, rfl, TT_of (i := 1530) (by decide +kernel) rfl, rfl⟩
theorem fl_X12_378 : FL RX12 378 11 31 (.int) false := ⟨_, _, _, _, cls_X12, by decide, rfl, rfl, Or.inl (TT_of (i := 1531) (by decide +kernel) rfl)⟩
theorem fl_X12_61 : FL RX12 61 11 32 (.array .long) true := ⟨_, _, _, _, cls_X12, by decide, rfl, rfl, Or.inl (TT_of (i := 1532) (by decide +kernel) rfl)⟩
theorem ff_X12_61 : FLF RX12 61 11 32 (.array .long) := ⟨_, _, _, _, cls_X12, by decide, rfl, rfl, TT_of (i := 1532) (by decide +kernel) rfl, rfl⟩
theorem fl_X12_64 : FL RX12 64 11 33 (.array .long) true := ⟨_, _, _, _, cls_X12, by decide, rfl, rfl, Or.inl (TT_of (i := 1533) (by decide +kernel) rfl)⟩
theorem ff_X12_64 : FLF RX12 64 11 33 (.array .long) := ⟨_, _, _, _, cls_X12, by decide, rfl, rfl, TT_of (i := 1533) (by decide +kernel) rfl, rfl⟩
theorem fl_X12_67 : FL RX12 67 11 34 (.array .long) true := ⟨_, _, _, _, cls_X12, by decide, rfl, rfl, Or.inl (TT_of (i := 1534) (by decide +kernel) rfl)⟩
theorem ff_X12_67 : FLF RX12 67 11 34 (.array .long) := ⟨_, _, _, _, cls_X12, by decide, rfl, rfl, TT_of (i := 1534) (by decide +kernel) rfl, rfl⟩
theorem fl_X12_70 : FL RX12 70 11 35 (.array .int) true := ⟨_, _, _, _, cls_X12, by decide, rfl, rfl, Or.inl (TT_of (i := 1535) (by decide +kernel) rfl)⟩
theorem ff_X12_70 : FLF RX12 70 11 35 (.array .int) := ⟨_, _, _, _, cls_X12, by decide, rfl, rfl, TT_of (i := 1535) (by decide +kernel) rfl, rfl⟩
theorem lk_L_286 : Cond.methodLink RL 286 yX12_image ∈ TT := TT_of (i := 1611) (by decide +kernel) rfl
theorem lk_L_291 : Cond.methodLink RL 291 yX12_back ∈ TT := TT_of (i := 1615) (by decide +kernel) rfl
theorem lk_L_147 : Cond.methodLink RL 147 yX12_feed ∈ TT := TT_of (i := 1619) (by decide +kernel) rfl
theorem lk_L_152 : Cond.methodLink RL 152 yX12_end ∈ TT := TT_of (i := 1623) (by decide +kernel) rfl
theorem lk_L_171 : Cond.methodLink RL 171 yX12_fault ∈ TT := TT_of (i := 1627) (by decide +kernel) rfl
theorem lk_L_158 : Cond.methodLink RL 158 yX12_game ∈ TT := TT_of (i := 1631) (by decide +kernel) rfl
theorem lk_X12_234 : Cond.methodLink RX12 234 yX12_reads ∈ TT := TT_of (i := 1635) (by decide +kernel) rfl
theorem lk_X12_97 : Cond.methodLink RX12 97 yX12_blanks ∈ TT := TT_of (i := 1639) (by decide +kernel) rfl
theorem lk_X12_90 : Cond.methodLink RX12 90 yX12_isAt ∈ TT := TT_of (i := 1643) (by decide +kernel) rfl
theorem lk_X12_231 : Cond.methodLink RX12 231 yX12_readLine ∈ TT := TT_of (i := 1647) (by decide +kernel) rfl
theorem lk_X12_110 : Cond.methodLink RX12 110 yX12_letters ∈ TT := TT_of (i := 1651) (by decide +kernel) rfl
theorem lk_X12_218 : Cond.methodLink RX12 218 yX12_lineAt ∈ TT := TT_of (i := 1655) (by decide +kernel) rfl
theorem lk_X12_117 : Cond.methodLink RX12 117 yX12_textAt ∈ TT := TT_of (i := 1658) (by decide +kernel) rfl
theorem lk_X12_222 : Cond.methodLink RX12 222 yX12_readGameLine ∈ TT := TT_of (i := 1661) (by decide +kernel) rfl
theorem lk_X12_113 : Cond.methodLink RX12 113 yX12_isWord ∈ TT := TT_of (i := 1666) (by decide +kernel) rfl
theorem lk_X12_100 : Cond.methodLink RX12 100 yJ0_length_8abf5 ∈ TT := TT_of (i := 1670) (by decide +kernel) rfl
theorem lk_X12_106 : Cond.methodLink RX12 106 yJ0_charAt_5068e ∈ TT := TT_of (i := 1671) (by decide +kernel) rfl
theorem lk_X12_148 : Cond.methodLink RX12 148 yX12_number ∈ TT := TT_of (i := 1672) (by decide +kernel) rfl
theorem lk_X12_191 : Cond.methodLink RX12 191 yX12_readState ∈ TT := TT_of (i := 1678) (by decide +kernel) rfl
theorem lk_X12_225 : Cond.methodLink RX12 225 yX12_readGoalsLine ∈ TT := TT_of (i := 1685) (by decide +kernel) rfl
theorem lk_X12_204 : Cond.methodLink RX12 204 yX12_keepsAt ∈ TT := TT_of (i := 1691) (by decide +kernel) rfl
theorem lk_X12_155 : Cond.methodLink RX12 155 yX12_sign ∈ TT := TT_of (i := 1695) (by decide +kernel) rfl
theorem lk_X12_141 : Cond.methodLink RX12 141 yX12_factAt ∈ TT := TT_of (i := 1699) (by decide +kernel) rfl
theorem lk_X12_167 : Cond.methodLink RX12 167 yX12_passes ∈ TT := TT_of (i := 1710) (by decide +kernel) rfl
theorem lk_X12_162 : Cond.methodLink RX12 162 yX12_readCond ∈ TT := TT_of (i := 1714) (by decide +kernel) rfl
theorem lk_X12_180 : Cond.methodLink RX12 180 yX12_readAllOf ∈ TT := TT_of (i := 1718) (by decide +kernel) rfl
theorem lk_X12_170 : Cond.methodLink RX12 170 yX12_readAtom ∈ TT := TT_of (i := 1722) (by decide +kernel) rfl
theorem lk_X12_144 : Cond.methodLink RX12 144 yX12_emits ∈ TT := TT_of (i := 1727) (by decide +kernel) rfl
theorem lk_X12_175 : Cond.methodLink RX12 175 yX12_readSum ∈ TT := TT_of (i := 1732) (by decide +kernel) rfl
theorem lk_X12_151 : Cond.methodLink RX12 151 yX12_readPart ∈ TT := TT_of (i := 1736) (by decide +kernel) rfl
theorem lk_X12_228 : Cond.methodLink RX12 228 yX12_readRuleLine ∈ TT := TT_of (i := 1742) (by decide +kernel) rfl
theorem lk_X12_215 : Cond.methodLink RX12 215 yX12_hasIf ∈ TT := TT_of (i := 1749) (by decide +kernel) rfl
theorem lk_X12_237 : Cond.methodLink RX12 237 yX12_throwsIf ∈ TT := TT_of (i := 1753) (by decide +kernel) rfl
theorem lk_L_164 : Cond.methodLink RL 164 yX12_goals ∈ TT := TT_of (i := 1757) (by decide +kernel) rfl
theorem lk_X12_241 : Cond.methodLink RX12 241 yX12_keeps ∈ TT := TT_of (i := 1761) (by decide +kernel) rfl
theorem lk_L_167 : Cond.methodLink RL 167 yX12_rule ∈ TT := TT_of (i := 1765) (by decide +kernel) rfl
theorem lk_L_175 : Cond.methodLink RL 175 yX12_follows ∈ TT := TT_of (i := 1769) (by decide +kernel) rfl
theorem lk_X12_245 : Cond.methodLink RX12 245 yX12_noState ∈ TT := TT_of (i := 1773) (by decide +kernel) rfl
theorem lk_X12_77 : Cond.methodLink RX12 77 yX12_in ∈ TT := TT_of (i := 1776) (by decide +kernel) rfl
theorem lk_X12_248 : Cond.methodLink RX12 248 yX12_chanceAt ∈ TT := TT_of (i := 1779) (by decide +kernel) rfl
theorem lk_X12_251 : Cond.methodLink RX12 251 yX12_staying ∈ TT := TT_of (i := 1782) (by decide +kernel) rfl
theorem lk_L_179 : Cond.methodLink RL 179 yX12_kick ∈ TT := TT_of (i := 1786) (by decide +kernel) rfl
theorem lk_X12_254 : Cond.methodLink RX12 254 yX12_noZone ∈ TT := TT_of (i := 1790) (by decide +kernel) rfl
theorem lk_L_183 : Cond.methodLink RL 183 yX12_now ∈ TT := TT_of (i := 1793) (by decide +kernel) rfl
theorem lk_L_187 : Cond.methodLink RL 187 yX12_goal ∈ TT := TT_of (i := 1797) (by decide +kernel) rfl
theorem lk_X12_279 : Cond.methodLink RX12 279 yX12_goalIn ∈ TT := TT_of (i := 1801) (by decide +kernel) rfl
theorem lk_X12_262 : Cond.methodLink RX12 262 yX12_setsFacts ∈ TT := TT_of (i := 1805) (by decide +kernel) rfl
theorem lk_X12_257 : Cond.methodLink RX12 257 yJ9_max_7cf53 ∈ TT := TT_of (i := 1809) (by decide +kernel) rfl
theorem lk_X12_265 : Cond.methodLink RX12 265 yX12_lines ∈ TT := TT_of (i := 1810) (by decide +kernel) rfl
theorem lk_X12_268 : Cond.methodLink RX12 268 yX12_holdsLine ∈ TT := TT_of (i := 1814) (by decide +kernel) rfl
theorem cn_X12_271 : Cond.constantLong RX12 271 (30000) ∈ TT := TT_of (i := 1818) (by decide +kernel) rfl
theorem lk_X12_273 : Cond.methodLink RX12 273 yJ9_min_f86c9 ∈ TT := TT_of (i := 1819) (by decide +kernel) rfl
theorem lk_X12_277 : Cond.methodLink RX12 277 yJ9_max_f86c9 ∈ TT := TT_of (i := 1822) (by decide +kernel) rfl
theorem lk_L_191 : Cond.methodLink RL 191 yX12_lost ∈ TT := TT_of (i := 1825) (by decide +kernel) rfl
theorem lk_L_194 : Cond.methodLink RL 194 yX12_horizon ∈ TT := TT_of (i := 1829) (by decide +kernel) rfl
theorem lk_L_197 : Cond.methodLink RL 197 yX12_grace ∈ TT := TT_of (i := 1833) (by decide +kernel) rfl
theorem lk_L_200 : Cond.methodLink RL 200 yX12_sort ∈ TT := TT_of (i := 1837) (by decide +kernel) rfl
theorem lk_X12_282 : Cond.methodLink RX12 282 yX12_sortAt ∈ TT := TT_of (i := 1841) (by decide +kernel) rfl
theorem lk_L_203 : Cond.methodLink RL 203 yX12_patience ∈ TT := TT_of (i := 1844) (by decide +kernel) rfl
theorem lk_L_206 : Cond.methodLink RL 206 yX12_worth ∈ TT := TT_of (i := 1848) (by decide +kernel) rfl
theorem lk_X12_296 : Cond.methodLink RX12 296 yX12_letsOn ∈ TT := TT_of (i := 1852) (by decide +kernel) rfl
theorem cn_X12_291 : Cond.constantLong RX12 291 (100) ∈ TT := TT_of (i := 1856) (by decide +kernel) rfl
theorem lk_X12_293 : Cond.methodLink RX12 293 yJ9_floorDiv_f86c9 ∈ TT := TT_of (i := 1857) (by decide +kernel) rfl
theorem lk_L_210 : Cond.methodLink RL 210 yX12_stop ∈ TT := TT_of (i := 1858) (by decide +kernel) rfl
theorem lk_X12_317 : Cond.methodLink RX12 317 yX12_noSort ∈ TT := TT_of (i := 1862) (by decide +kernel) rfl
theorem lk_X12_320 : Cond.methodLink RX12 320 yX12_toldCard ∈ TT := TT_of (i := 1866) (by decide +kernel) rfl
theorem lk_X12_323 : Cond.methodLink RX12 323 yX12_fouls ∈ TT := TT_of (i := 1870) (by decide +kernel) rfl
theorem lk_X12_302 : Cond.methodLink RX12 302 yX12_cardOf ∈ TT := TT_of (i := 1874) (by decide +kernel) rfl
theorem lk_X12_299 : Cond.methodLink RX12 299 yX12_rates ∈ TT := TT_of (i := 1878) (by decide +kernel) rfl
theorem lk_L_214 : Cond.methodLink RL 214 yX12_judge ∈ TT := TT_of (i := 1882) (by decide +kernel) rfl
theorem lk_X12_341 : Cond.methodLink RX12 341 yX12_isNoFoul ∈ TT := TT_of (i := 1886) (by decide +kernel) rfl
theorem lk_X12_335 : Cond.methodLink RX12 335 yX12_noJudge ∈ TT := TT_of (i := 1890) (by decide +kernel) rfl
theorem lk_X12_344 : Cond.methodLink RX12 344 yX12_badBar ∈ TT := TT_of (i := 1894) (by decide +kernel) rfl
theorem lk_X12_347 : Cond.methodLink RX12 347 yX12_asks ∈ TT := TT_of (i := 1898) (by decide +kernel) rfl
theorem lk_X12_338 : Cond.methodLink RX12 338 yX12_judges ∈ TT := TT_of (i := 1902) (by decide +kernel) rfl
theorem lk_X12_327 : Cond.methodLink RX12 327 yX12_waiting ∈ TT := TT_of (i := 1906) (by decide +kernel) rfl
theorem lk_X12_331 : Cond.methodLink RX12 331 yX12_says ∈ TT := TT_of (i := 1910) (by decide +kernel) rfl
theorem lk_L_217 : Cond.methodLink RL 217 yX12_does ∈ TT := TT_of (i := 1914) (by decide +kernel) rfl
theorem lk_L_221 : Cond.methodLink RL 221 yX12_waits ∈ TT := TT_of (i := 1918) (by decide +kernel) rfl
theorem lk_X12_351 : Cond.methodLink RX12 351 yX12_bestBy ∈ TT := TT_of (i := 1922) (by decide +kernel) rfl
theorem lk_L_224 : Cond.methodLink RL 224 yX12_enough ∈ TT := TT_of (i := 1926) (by decide +kernel) rfl
theorem lk_L_228 : Cond.methodLink RL 228 yX12_loses ∈ TT := TT_of (i := 1930) (by decide +kernel) rfl
theorem lk_X12_355 : Cond.methodLink RX12 355 yX12_losesAt ∈ TT := TT_of (i := 1934) (by decide +kernel) rfl
theorem lk_L_232 : Cond.methodLink RL 232 yX12_part ∈ TT := TT_of (i := 1938) (by decide +kernel) rfl
theorem lk_L_235 : Cond.methodLink RL 235 yX12_bar ∈ TT := TT_of (i := 1942) (by decide +kernel) rfl
theorem lk_L_238 : Cond.methodLink RL 238 yX12_pays ∈ TT := TT_of (i := 1946) (by decide +kernel) rfl
theorem lk_X12_359 : Cond.methodLink RX12 359 yX12_paying ∈ TT := TT_of (i := 1950) (by decide +kernel) rfl
theorem lk_L_242 : Cond.methodLink RL 242 yX12_least ∈ TT := TT_of (i := 1954) (by decide +kernel) rfl
theorem lk_L_245 : Cond.methodLink RL 245 yX12_rate ∈ TT := TT_of (i := 1958) (by decide +kernel) rfl
theorem lk_L_248 : Cond.methodLink RL 248 yX12_often ∈ TT := TT_of (i := 1962) (by decide +kernel) rfl
theorem lk_L_251 : Cond.methodLink RL 251 yX12_match ∈ TT := TT_of (i := 1966) (by decide +kernel) rfl
theorem lk_X12_363 : Cond.methodLink RX12 363 yX12_matchIn ∈ TT := TT_of (i := 1970) (by decide +kernel) rfl
theorem cn_X12_367 : Cond.constantLong RX12 367 (9) ∈ TT := TT_of (i := 1974) (by decide +kernel) rfl
theorem lk_L_254 : Cond.methodLink RL 254 yX12_learn ∈ TT := TT_of (i := 1975) (by decide +kernel) rfl
theorem lk_X12_371 : Cond.methodLink RX12 371 yX12_learns ∈ TT := TT_of (i := 1979) (by decide +kernel) rfl
theorem lk_X12_369 : Cond.methodLink RX12 369 yJ9_min_7cf53 ∈ TT := TT_of (i := 1983) (by decide +kernel) rfl
theorem lk_L_257 : Cond.methodLink RL 257 yX12_two ∈ TT := TT_of (i := 1984) (by decide +kernel) rfl
theorem lk_L_261 : Cond.methodLink RL 261 yX12_leans ∈ TT := TT_of (i := 1988) (by decide +kernel) rfl
theorem lk_X12_374 : Cond.methodLink RX12 374 yX12_choices ∈ TT := TT_of (i := 1992) (by decide +kernel) rfl
theorem lk_L_264 : Cond.methodLink RL 264 yX12_played ∈ TT := TT_of (i := 1995) (by decide +kernel) rfl
theorem lk_X12_387 : Cond.methodLink RX12 387 yX12_plays ∈ TT := TT_of (i := 1999) (by decide +kernel) rfl
theorem lk_X12_384 : Cond.methodLink RX12 384 yX12_drawn ∈ TT := TT_of (i := 2003) (by decide +kernel) rfl
theorem lk_X12_381 : Cond.methodLink RX12 381 yX12_draw ∈ TT := TT_of (i := 2007) (by decide +kernel) rfl
theorem cn_X12_377 : Cond.constant RX12 377 (1103515245) ∈ TT := TT_of (i := 2011) (by decide +kernel) rfl
theorem lk_L_267 : Cond.methodLink RL 267 yX12_ends ∈ TT := TT_of (i := 2012) (by decide +kernel) rfl
theorem lk_X12_395 : Cond.methodLink RX12 395 yX12_tellsEnds ∈ TT := TT_of (i := 2016) (by decide +kernel) rfl
theorem lk_X12_392 : Cond.methodLink RX12 392 yX12_endsBy ∈ TT := TT_of (i := 2020) (by decide +kernel) rfl
theorem cn_X12_390 : Cond.constantLong RX12 390 (1000000) ∈ TT := TT_of (i := 2024) (by decide +kernel) rfl
theorem lk_L_270 : Cond.methodLink RL 270 yX12_mean ∈ TT := TT_of (i := 2025) (by decide +kernel) rfl
theorem lk_L_273 : Cond.methodLink RL 273 yX12_plain ∈ TT := TT_of (i := 2029) (by decide +kernel) rfl
theorem lk_L_276 : Cond.methodLink RL 276 yX12_right ∈ TT := TT_of (i := 2033) (by decide +kernel) rfl
theorem lk_L_279 : Cond.methodLink RL 279 yX12_rest ∈ TT := TT_of (i := 2037) (by decide +kernel) rfl
theorem cn_X12_400 : Cond.constantLong RX12 400 (-9223372036854775808) ∈ TT := TT_of (i := 2041) (by decide +kernel) rfl
theorem lk_L_282 : Cond.methodLink RL 282 yX12_season ∈ TT := TT_of (i := 2042) (by decide +kernel) rfl
theorem lk_L_295 : Cond.methodLink RL 295 yX12_count ∈ TT := TT_of (i := 2046) (by decide +kernel) rfl
theorem ar_int : Cond.arrayClass .int ∈ TT := TT_of (i := 178) (by decide +kernel) rfl
theorem ar_byte : Cond.arrayClass .byte ∈ TT := TT_of (i := 1609) (by decide +kernel) rfl
theorem ar_long : Cond.arrayClass .long ∈ TT := TT_of (i := 1610) (by decide +kernel) rfl
theorem oi_ins : Cond.instanceMethod Lib.objectInit ∈ TT := TT_of (i := 124) (by decide +kernel) rfl
theorem oi_code : Cond.code Lib.objectInit ⟨#[0xb1]⟩ 1 none ∈ TT := TT_of (i := 125) (by decide +kernel) rfl
