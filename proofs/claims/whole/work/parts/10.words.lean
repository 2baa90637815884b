/-! the words of the tables that the methods use, by their places -/
theorem cl0 : fd_cl[0]? = some (RX0, TX0, 2) := rfl
theorem inX0 : ∀ w ∈ u_ws RX0 TX0 2, w ∈ fd_TB := fd_places [385, 387] (by decide +kernel) (by decide +kernel)
theorem cl1 : fd_cl[1]? = some (RX1, TX1, 5) := rfl
theorem inX1 : ∀ w ∈ u_ws RX1 TX1 5, w ∈ fd_TB := fd_places [251, 253, 255, 257, 259] (by decide +kernel) (by decide +kernel)
theorem cl2 : fd_cl[2]? = some (RX2, TX2, 11) := rfl
theorem inX2 : ∀ w ∈ u_ws RX2 TX2 11, w ∈ fd_TB := fd_places [279, 281, 283, 285, 287, 289, 291, 293, 295, 297, 299] (by decide +kernel) (by decide +kernel)
theorem cl3 : fd_cl[3]? = some (RX3, TX3, 10) := rfl
theorem inX3 : ∀ w ∈ u_ws RX3 TX3 10, w ∈ fd_TB := fd_places [192, 194, 196, 198, 200, 202, 204, 206, 208, 210] (by decide +kernel) (by decide +kernel)
theorem cl4 : fd_cl[4]? = some (RX4, TX4, 2) := rfl
theorem inX4 : ∀ w ∈ u_ws RX4 TX4 2, w ∈ fd_TB := fd_places [164, 166] (by decide +kernel) (by decide +kernel)
theorem cl5 : fd_cl[5]? = some (RX5, TX5, 5) := rfl
theorem inX5 : ∀ w ∈ u_ws RX5 TX5 5, w ∈ fd_TB := fd_places [366, 368, 370, 372, 374] (by decide +kernel) (by decide +kernel)
theorem cl6 : fd_cl[6]? = some (RX6, TX6, 13) := rfl
theorem inX6 : ∀ w ∈ u_ws RX6 TX6 13, w ∈ fd_TB := fd_places [410, 412, 414, 416, 418, 420, 422, 424, 426, 428, 430, 432, 434] (by decide +kernel) (by decide +kernel)
theorem cl7 : fd_cl[7]? = some (RX7, TX7, 4) := rfl
theorem inX7 : ∀ w ∈ u_ws RX7 TX7 4, w ∈ fd_TB := fd_places [145, 147, 149, 151] (by decide +kernel) (by decide +kernel)
theorem cl8 : fd_cl[8]? = some (RX8, TX8, 4) := rfl
theorem inX8 : ∀ w ∈ u_ws RX8 TX8 4, w ∈ fd_TB := fd_places [224, 226, 228, 230] (by decide +kernel) (by decide +kernel)
theorem cl9 : fd_cl[9]? = some (RX9, TX9, 9) := rfl
theorem inX9 : ∀ w ∈ u_ws RX9 TX9 9, w ∈ fd_TB := fd_places [454, 456, 458, 460, 462, 464, 466, 468, 470] (by decide +kernel) (by decide +kernel)
theorem cl10 : fd_cl[10]? = some (RX10, TX10, 10) := rfl
theorem inX10 : ∀ w ∈ u_ws RX10 TX10 10, w ∈ fd_TB := fd_places [330, 332, 334, 336, 338, 340, 342, 344, 346, 348] (by decide +kernel) (by decide +kernel)
theorem cl11 : fd_cl[11]? = some (RX11, TX11, 13) := rfl
theorem inX11 : ∀ w ∈ u_ws RX11 TX11 13, w ∈ fd_TB := fd_places [486, 488, 490, 492, 494, 496, 498, 500, 502, 504, 506, 508, 510] (by decide +kernel) (by decide +kernel)
theorem cl12 : fd_cl[12]? = some (RX12, TX12, 62) := rfl
theorem inX12 : ∀ w ∈ u_ws RX12 TX12 62, w ∈ fd_TB := fd_places [1478, 1480, 1482, 1484, 1486, 1488, 1490, 1492, 1494, 1496, 1498, 1500, 1502, 1504, 1506, 1508, 1510, 1512, 1514, 1516, 1518, 1520, 1522, 1524, 1526, 1528, 1530, 1532, 1534, 1536, 1538, 1540, 1542, 1544, 1546, 1548, 1550, 1552, 1554, 1556, 1558, 1560, 1562, 1564, 1566, 1568, 1570, 1572, 1574, 1576, 1578, 1580, 1582, 1584, 1586, 1588, 1590, 1592, 1594, 1596, 1598, 1600] (by decide +kernel) (by decide +kernel)
theorem ki_4 : Int32.ofInt (4) = (4 : Int32) := by decide
theorem kb_80 : (Int8.ofInt (80)).toInt32 = (80 : Int32) := by decide
theorem ki_m1 : Int32.ofInt (-1) = (-1 : Int32) := by decide
theorem ki_1 : Int32.ofInt (1) = (1 : Int32) := by decide
theorem kb_24 : (Int8.ofInt (24)).toInt32 = (24 : Int32) := by decide
theorem kb_8 : (Int8.ofInt (8)).toInt32 = (8 : Int32) := by decide
theorem ks_255 : (Int16.ofInt (255)).toInt32 = (255 : Int32) := by decide
theorem ki_0 : Int32.ofInt (0) = (0 : Int32) := by decide
theorem kb_76 : (Int8.ofInt (76)).toInt32 = (76 : Int32) := by decide
theorem kb_59 : (Int8.ofInt (59)).toInt32 = (59 : Int32) := by decide
theorem kb_9 : (Int8.ofInt (9)).toInt32 = (9 : Int32) := by decide
theorem kb_118 : (Int8.ofInt (118)).toInt32 = (118 : Int32) := by decide
theorem kb_114 : (Int8.ofInt (114)).toInt32 = (114 : Int32) := by decide
theorem kb_10 : (Int8.ofInt (10)).toInt32 = (10 : Int32) := by decide
theorem kb_48 : (Int8.ofInt (48)).toInt32 = (48 : Int32) := by decide
theorem kb_57 : (Int8.ofInt (57)).toInt32 = (57 : Int32) := by decide
theorem ki_2 : Int32.ofInt (2) = (2 : Int32) := by decide
theorem kb_97 : (Int8.ofInt (97)).toInt32 = (97 : Int32) := by decide
theorem kb_36 : (Int8.ofInt (36)).toInt32 = (36 : Int32) := by decide
theorem kb_42 : (Int8.ofInt (42)).toInt32 = (42 : Int32) := by decide
theorem kb_45 : (Int8.ofInt (45)).toInt32 = (45 : Int32) := by decide
theorem kb_40 : (Int8.ofInt (40)).toInt32 = (40 : Int32) := by decide
theorem ks_256 : (Int16.ofInt (256)).toInt32 = (256 : Int32) := by decide
theorem ki_3 : Int32.ofInt (3) = (3 : Int32) := by decide
theorem ks_1000 : (Int16.ofInt (1000)).toInt32 = (1000 : Int32) := by decide
theorem kb_6 : (Int8.ofInt (6)).toInt32 = (6 : Int32) := by decide
theorem kb_41 : (Int8.ofInt (41)).toInt32 = (41 : Int32) := by decide
theorem kb_30 : (Int8.ofInt (30)).toInt32 = (30 : Int32) := by decide
theorem kb_99 : (Int8.ofInt (99)).toInt32 = (99 : Int32) := by decide
theorem kb_m3 : (Int8.ofInt (-3)).toInt32 = (-3 : Int32) := by decide
theorem kb_m2 : (Int8.ofInt (-2)).toInt32 = (-2 : Int32) := by decide
theorem kb_12 : (Int8.ofInt (12)).toInt32 = (12 : Int32) := by decide
theorem kb_11 : (Int8.ofInt (11)).toInt32 = (11 : Int32) := by decide
theorem kb_50 : (Int8.ofInt (50)).toInt32 = (50 : Int32) := by decide
theorem kb_20 : (Int8.ofInt (20)).toInt32 = (20 : Int32) := by decide
theorem ki_5 : Int32.ofInt (5) = (5 : Int32) := by decide
theorem ks_m256 : (Int16.ofInt (-256)).toInt32 = (-256 : Int32) := by decide
theorem kb_16 : (Int8.ofInt (16)).toInt32 = (16 : Int32) := by decide
theorem kb_63 : (Int8.ofInt (63)).toInt32 = (63 : Int32) := by decide
theorem kb_60 : (Int8.ofInt (60)).toInt32 = (60 : Int32) := by decide
theorem kb_m9 : (Int8.ofInt (-9)).toInt32 = (-9 : Int32) := by decide
theorem kb_109 : (Int8.ofInt (109)).toInt32 = (109 : Int32) := by decide
theorem kb_103 : (Int8.ofInt (103)).toInt32 = (103 : Int32) := by decide
theorem kb_122 : (Int8.ofInt (122)).toInt32 = (122 : Int32) := by decide
theorem kb_m100 : (Int8.ofInt (-100)).toInt32 = (-100 : Int32) := by decide
theorem kb_7 : (Int8.ofInt (7)).toInt32 = (7 : Int32) := by decide
theorem kb_13 : (Int8.ofInt (13)).toInt32 = (13 : Int32) := by decide
theorem ks_m200 : (Int16.ofInt (-200)).toInt32 = (-200 : Int32) := by decide
theorem ks_12345 : (Int16.ofInt (12345)).toInt32 = (12345 : Int32) := by decide
theorem kb_81 : (Int8.ofInt (81)).toInt32 = (81 : Int32) := by decide
theorem kb_49 : (Int8.ofInt (49)).toInt32 = (49 : Int32) := by decide
theorem kb_15 : (Int8.ofInt (15)).toInt32 = (15 : Int32) := by decide
theorem kb_62 : (Int8.ofInt (62)).toInt32 = (62 : Int32) := by decide
theorem kb_61 : (Int8.ofInt (61)).toInt32 = (61 : Int32) := by decide
theorem kb_43 : (Int8.ofInt (43)).toInt32 = (43 : Int32) := by decide
theorem kb_47 : (Int8.ofInt (47)).toInt32 = (47 : Int32) := by decide
theorem kb_116 : (Int8.ofInt (116)).toInt32 = (116 : Int32) := by decide
theorem kb_102 : (Int8.ofInt (102)).toInt32 = (102 : Int32) := by decide
theorem kb_100 : (Int8.ofInt (100)).toInt32 = (100 : Int32) := by decide
theorem kb_110 : (Int8.ofInt (110)).toInt32 = (110 : Int32) := by decide
theorem kb_115 : (Int8.ofInt (115)).toInt32 = (115 : Int32) := by decide
theorem kb_23 : (Int8.ofInt (23)).toInt32 = (23 : Int32) := by decide
theorem ks_253 : (Int16.ofInt (253)).toInt32 = (253 : Int32) := by decide
theorem kb_32 : (Int8.ofInt (32)).toInt32 = (32 : Int32) := by decide
theorem ki_16 : Int32.ofInt (16) = (16 : Int32) := by decide
theorem ki_8 : Int32.ofInt (8) = (8 : Int32) := by decide
theorem fl_X11_10 : fd_Fl RX11 10 11 0 := ⟨RX11, TX11, 13, rfl, by decide, inX11, Or.inl (fd_tbi 473 (by decide +kernel) rfl)⟩
theorem yv_X7_addFour : fd_Yv yX7_addFour cX7_addFour 3 (some .int) RX7 1 := ⟨fd_tbi 518 (by decide +kernel) rfl, fd_tbi 519 (by decide +kernel) rfl, fd_tbi 104 (by decide +kernel) rfl, fd_tbi 520 (by decide +kernel) rfl, by decide, rfl, by decide, by decide, by decide +kernel⟩
theorem ml_X11_89 : Cond.methodLink RX11 89 yX7_addFour ∈ fd_TB := fd_tbi 517 (by decide +kernel) rfl
theorem fl_X7_15 : fd_Fl RX7 15 7 1 := ⟨RX7, TX7, 4, rfl, by decide, inX7, Or.inl (fd_tbi 141 (by decide +kernel) rfl)⟩
theorem fl_X7_11 : fd_Fl RX7 11 7 0 := ⟨RX7, TX7, 4, rfl, by decide, inX7, Or.inl (fd_tbi 140 (by decide +kernel) rfl)⟩
theorem fp_X7_1 : fd_Fp 7 1 .int := ⟨RX7, TX7, 4, tyX7, rfl, tyX7_ok, nmX7, rfl, rfl⟩
theorem yv_X7_cutTo : fd_Yv yX7_cutTo cX7_cutTo 2 (some .boolean) RX7 1 := ⟨fd_tbi 526 (by decide +kernel) rfl, fd_tbi 527 (by decide +kernel) rfl, fd_tbi 104 (by decide +kernel) rfl, fd_tbi 528 (by decide +kernel) rfl, by decide, rfl, by decide, by decide, by decide +kernel⟩
theorem ml_X11_93 : Cond.methodLink RX11 93 yX7_cutTo ∈ fd_TB := fd_tbi 525 (by decide +kernel) rfl
theorem fl_X11_97 : fd_Fl RX11 97 7 1 := ⟨RX7, TX7, 4, rfl, by decide, inX7, Or.inr ⟨RX11, fd_nwi 40 (by decide +kernel) rfl⟩⟩
theorem fl_X11_26 : fd_Fl RX11 26 11 2 := ⟨RX11, TX11, 13, rfl, by decide, inX11, Or.inl (fd_tbi 475 (by decide +kernel) rfl)⟩
theorem yv_X3_read : fd_Yv yX3_read cX3_read 3 (some .int) RX3 1 := ⟨fd_tbi 534 (by decide +kernel) rfl, fd_tbi 535 (by decide +kernel) rfl, fd_tbi 106 (by decide +kernel) rfl, fd_tbi 536 (by decide +kernel) rfl, by decide, rfl, by decide, by decide, by decide +kernel⟩
theorem ml_X11_101 : Cond.methodLink RX11 101 yX3_read ∈ fd_TB := fd_tbi 533 (by decide +kernel) rfl
theorem yv_X7_clear : fd_Yv yX7_clear cX7_clear 1 none RX7 0 := ⟨fd_tbi 607 (by decide +kernel) rfl, fd_tbi 608 (by decide +kernel) rfl, fd_tbi 104 (by decide +kernel) rfl, fd_tbi 609 (by decide +kernel) rfl, by decide, rfl, by decide, by decide, by decide +kernel⟩
theorem ml_X11_105 : Cond.methodLink RX11 105 yX7_clear ∈ fd_TB := fd_tbi 606 (by decide +kernel) rfl
theorem fl_X11_64 : fd_Fl RX11 64 11 8 := ⟨RX11, TX11, 13, rfl, by decide, inX11, Or.inl (fd_tbi 481 (by decide +kernel) rfl)⟩
theorem yv_X5_forgetAll : fd_Yv yX5_forgetAll cX5_forgetAll 2 none RX5 0 := ⟨fd_tbi 611 (by decide +kernel) rfl, fd_tbi 612 (by decide +kernel) rfl, fd_tbi 111 (by decide +kernel) rfl, fd_tbi 613 (by decide +kernel) rfl, by decide, rfl, by decide, by decide, by decide +kernel⟩
theorem ml_X11_108 : Cond.methodLink RX11 108 yX5_forgetAll ∈ fd_TB := fd_tbi 610 (by decide +kernel) rfl
theorem fl_X3_40 : fd_Fl RX3 40 3 8 := ⟨RX3, TX3, 10, rfl, by decide, inX3, Or.inl (fd_tbi 190 (by decide +kernel) rfl)⟩
theorem fl_X3_32 : fd_Fl RX3 32 3 0 := ⟨RX3, TX3, 10, rfl, by decide, inX3, Or.inl (fd_tbi 178 (by decide +kernel) rfl)⟩
theorem fp_X3_8 : fd_Fp 3 8 .int := ⟨RX3, TX3, 10, tyX3, rfl, tyX3_ok, nmX3, rfl, rfl⟩
theorem fl_X3_46 : fd_Fl RX3 46 3 9 := ⟨RX3, TX3, 10, rfl, by decide, inX3, Or.inl (fd_tbi 191 (by decide +kernel) rfl)⟩
theorem fl_X3_43 : fd_Fl RX3 43 3 1 := ⟨RX3, TX3, 10, rfl, by decide, inX3, Or.inl (fd_tbi 182 (by decide +kernel) rfl)⟩
theorem fp_X3_9 : fd_Fp 3 9 .int := ⟨RX3, TX3, 10, tyX3, rfl, tyX3_ok, nmX3, rfl, rfl⟩
theorem yv_X7_begin : fd_Yv yX7_begin cX7_begin 2 none RX7 1 := ⟨fd_tbi 538 (by decide +kernel) rfl, fd_tbi 539 (by decide +kernel) rfl, fd_tbi 104 (by decide +kernel) rfl, fd_tbi 540 (by decide +kernel) rfl, by decide, rfl, by decide, by decide, by decide +kernel⟩
theorem ml_X3_49 : Cond.methodLink RX3 49 yX7_begin ∈ fd_TB := fd_tbi 537 (by decide +kernel) rfl
theorem yv_X3_readLine : fd_Yv yX3_readLine cX3_readLine 2 (some .boolean) RX3 1 := ⟨fd_tbi 546 (by decide +kernel) rfl, fd_tbi 0 (by decide +kernel) rfl, fd_tbi 106 (by decide +kernel) rfl, fd_tbi 547 (by decide +kernel) rfl, by decide, rfl, by decide, by decide, by decide +kernel⟩
theorem ml_X3_55 : Cond.methodLink RX3 55 yX3_readLine ∈ fd_TB := fd_tbi 544 (by decide +kernel) rfl
theorem yv_X7_refusal : fd_Yv yX7_refusal cX7_refusal 1 (some .int) RX7 0 := ⟨fd_tbi 581 (by decide +kernel) rfl, fd_tbi 582 (by decide +kernel) rfl, fd_tbi 104 (by decide +kernel) rfl, fd_tbi 583 (by decide +kernel) rfl, by decide, rfl, by decide, by decide, by decide +kernel⟩
theorem ml_X3_59 : Cond.methodLink RX3 59 yX7_refusal ∈ fd_TB := fd_tbi 580 (by decide +kernel) rfl
theorem yv_X7_take : fd_Yv yX7_take cX7_take 2 (some .boolean) RX7 1 := ⟨fd_tbi 549 (by decide +kernel) rfl, fd_tbi 550 (by decide +kernel) rfl, fd_tbi 104 (by decide +kernel) rfl, fd_tbi 551 (by decide +kernel) rfl, by decide, rfl, by decide, by decide, by decide +kernel⟩
theorem ml_X3_63 : Cond.methodLink RX3 63 yX7_take ∈ fd_TB := fd_tbi 548 (by decide +kernel) rfl
theorem yv_X7_isWhole : fd_Yv yX7_isWhole cX7_isWhole 1 (some .boolean) RX7 0 := ⟨fd_tbi 585 (by decide +kernel) rfl, fd_tbi 586 (by decide +kernel) rfl, fd_tbi 104 (by decide +kernel) rfl, fd_tbi 587 (by decide +kernel) rfl, by decide, rfl, by decide, by decide, by decide +kernel⟩
theorem ml_X3_66 : Cond.methodLink RX3 66 yX7_isWhole ∈ fd_TB := fd_tbi 584 (by decide +kernel) rfl
theorem yv_X3_settle : fd_Yv yX3_settle cX3_settle 2 (some .int) RX3 1 := ⟨fd_tbi 590 (by decide +kernel) rfl, fd_tbi 3 (by decide +kernel) rfl, fd_tbi 106 (by decide +kernel) rfl, fd_tbi 591 (by decide +kernel) rfl, by decide, rfl, by decide, by decide, by decide +kernel⟩
theorem ml_X3_70 : Cond.methodLink RX3 70 yX3_settle ∈ fd_TB := fd_tbi 588 (by decide +kernel) rfl
theorem fl_X7_19 : fd_Fl RX7 19 7 2 := ⟨RX7, TX7, 4, rfl, by decide, inX7, Or.inl (fd_tbi 143 (by decide +kernel) rfl)⟩
theorem fp_X7_2 : fd_Fp 7 2 .int := ⟨RX7, TX7, 4, tyX7, rfl, tyX7_ok, nmX7, rfl, rfl⟩
theorem fl_X7_28 : fd_Fl RX7 28 7 3 := ⟨RX7, TX7, 4, rfl, by decide, inX7, Or.inl (fd_tbi 144 (by decide +kernel) rfl)⟩
theorem ml_X7_22 : Cond.methodLink RX7 22 Lib.Math.min.name ∈ fd_TB := fd_tbi 541 (by decide +kernel) rfl
theorem fp_X7_3 : fd_Fp 7 3 .int := ⟨RX7, TX7, 4, tyX7, rfl, tyX7_ok, nmX7, rfl, rfl⟩
theorem yv_X3_readVillage : fd_Yv yX3_readVillage cX3_readVillage 3 (some .boolean) RX3 1 := ⟨fd_tbi 558 (by decide +kernel) rfl, fd_tbi 1 (by decide +kernel) rfl, fd_tbi 106 (by decide +kernel) rfl, fd_tbi 559 (by decide +kernel) rfl, by decide, rfl, by decide, by decide, by decide +kernel⟩
theorem ml_X3_74 : Cond.methodLink RX3 74 yX3_readVillage ∈ fd_TB := fd_tbi 556 (by decide +kernel) rfl
theorem yv_X3_readRoad : fd_Yv yX3_readRoad cX3_readRoad 5 (some .boolean) RX3 1 := ⟨fd_tbi 570 (by decide +kernel) rfl, fd_tbi 2 (by decide +kernel) rfl, fd_tbi 106 (by decide +kernel) rfl, fd_tbi 571 (by decide +kernel) rfl, by decide, rfl, by decide, by decide, by decide +kernel⟩
theorem ml_X3_77 : Cond.methodLink RX3 77 yX3_readRoad ∈ fd_TB := fd_tbi 568 (by decide +kernel) rfl
theorem yv_X7_look : fd_Yv yX7_look cX7_look 1 (some .int) RX7 0 := ⟨fd_tbi 553 (by decide +kernel) rfl, fd_tbi 554 (by decide +kernel) rfl, fd_tbi 104 (by decide +kernel) rfl, fd_tbi 555 (by decide +kernel) rfl, by decide, rfl, by decide, by decide, by decide +kernel⟩
theorem ml_X7_31 : Cond.methodLink RX7 31 yX7_look ∈ fd_TB := fd_tbi 552 (by decide +kernel) rfl
theorem yv_X7_takeNumber : fd_Yv yX7_takeNumber cX7_takeNumber 4 (some .int) RX7 1 := ⟨fd_tbi 561 (by decide +kernel) rfl, fd_tbi 562 (by decide +kernel) rfl, fd_tbi 104 (by decide +kernel) rfl, fd_tbi 563 (by decide +kernel) rfl, by decide, rfl, by decide, by decide, by decide +kernel⟩
theorem ml_X3_80 : Cond.methodLink RX3 80 yX7_takeNumber ∈ fd_TB := fd_tbi 560 (by decide +kernel) rfl
theorem fl_X3_9 : fd_Fl RX3 9 3 2 := ⟨RX3, TX3, 10, rfl, by decide, inX3, Or.inl (fd_tbi 184 (by decide +kernel) rfl)⟩
theorem yv_X7_isAtDigit : fd_Yv yX7_isAtDigit cX7_isAtDigit 2 (some .boolean) RX7 0 := ⟨fd_tbi 565 (by decide +kernel) rfl, fd_tbi 566 (by decide +kernel) rfl, fd_tbi 104 (by decide +kernel) rfl, fd_tbi 567 (by decide +kernel) rfl, by decide, rfl, by decide, by decide, by decide +kernel⟩
theorem ml_X7_35 : Cond.methodLink RX7 35 yX7_isAtDigit ∈ fd_TB := fd_tbi 564 (by decide +kernel) rfl
theorem yv_X7_takeLetter : fd_Yv yX7_takeLetter cX7_takeLetter 4 (some .int) RX7 2 := ⟨fd_tbi 573 (by decide +kernel) rfl, fd_tbi 574 (by decide +kernel) rfl, fd_tbi 104 (by decide +kernel) rfl, fd_tbi 575 (by decide +kernel) rfl, by decide, rfl, by decide, by decide, by decide +kernel⟩
theorem ml_X3_83 : Cond.methodLink RX3 83 yX7_takeLetter ∈ fd_TB := fd_tbi 572 (by decide +kernel) rfl
theorem yv_X7_giveBack : fd_Yv yX7_giveBack cX7_giveBack 1 none RX7 0 := ⟨fd_tbi 577 (by decide +kernel) rfl, fd_tbi 578 (by decide +kernel) rfl, fd_tbi 104 (by decide +kernel) rfl, fd_tbi 579 (by decide +kernel) rfl, by decide, rfl, by decide, by decide, by decide +kernel⟩
theorem ml_X3_87 : Cond.methodLink RX3 87 yX7_giveBack ∈ fd_TB := fd_tbi 576 (by decide +kernel) rfl
theorem fl_X3_15 : fd_Fl RX3 15 3 3 := ⟨RX3, TX3, 10, rfl, by decide, inX3, Or.inl (fd_tbi 185 (by decide +kernel) rfl)⟩
theorem fl_X3_18 : fd_Fl RX3 18 3 4 := ⟨RX3, TX3, 10, rfl, by decide, inX3, Or.inl (fd_tbi 186 (by decide +kernel) rfl)⟩
theorem fl_X3_21 : fd_Fl RX3 21 3 5 := ⟨RX3, TX3, 10, rfl, by decide, inX3, Or.inl (fd_tbi 187 (by decide +kernel) rfl)⟩
theorem fp_X3_0 : fd_Fp 3 0 .int := ⟨RX3, TX3, 10, tyX3, rfl, tyX3_ok, nmX3, rfl, rfl⟩
theorem fp_X3_1 : fd_Fp 3 1 .int := ⟨RX3, TX3, 10, tyX3, rfl, tyX3_ok, nmX3, rfl, rfl⟩
theorem yv_X3_layRoads : fd_Yv yX3_layRoads cX3_layRoads 5 none RX3 0 := ⟨fd_tbi 594 (by decide +kernel) rfl, fd_tbi 4 (by decide +kernel) rfl, fd_tbi 106 (by decide +kernel) rfl, fd_tbi 595 (by decide +kernel) rfl, by decide, rfl, by decide, by decide, by decide +kernel⟩
theorem ml_X3_90 : Cond.methodLink RX3 90 yX3_layRoads ∈ fd_TB := fd_tbi 592 (by decide +kernel) rfl
theorem yv_X3_findWays : fd_Yv yX3_findWays cX3_findWays 4 none RX3 0 := ⟨fd_tbi 604 (by decide +kernel) rfl, fd_tbi 5 (by decide +kernel) rfl, fd_tbi 106 (by decide +kernel) rfl, fd_tbi 605 (by decide +kernel) rfl, by decide, rfl, by decide, by decide, by decide +kernel⟩
theorem ml_X3_93 : Cond.methodLink RX3 93 yX3_findWays ∈ fd_TB := fd_tbi 602 (by decide +kernel) rfl
theorem fl_X3_26 : fd_Fl RX3 26 3 6 := ⟨RX3, TX3, 10, rfl, by decide, inX3, Or.inl (fd_tbi 188 (by decide +kernel) rfl)⟩
theorem cw_X3_96 : Cond.constant RX3 96 (1000000 : Int32) ∈ fd_TB := fd_tbi 596 (by decide +kernel) rfl
theorem yv_X3_has : fd_Yv yX3_has cX3_has 2 (some .boolean) RX3 1 := ⟨fd_tbi 598 (by decide +kernel) rfl, fd_tbi 599 (by decide +kernel) rfl, fd_tbi 106 (by decide +kernel) rfl, fd_tbi 600 (by decide +kernel) rfl, by decide, rfl, by decide, by decide, by decide +kernel⟩
theorem ml_X3_36 : Cond.methodLink RX3 36 yX3_has ∈ fd_TB := fd_tbi 597 (by decide +kernel) rfl
theorem ml_X3_97 : Cond.methodLink RX3 97 Lib.Math.min.name ∈ fd_TB := fd_tbi 601 (by decide +kernel) rfl
theorem fl_X3_29 : fd_Fl RX3 29 3 7 := ⟨RX3, TX3, 10, rfl, by decide, inX3, Or.inl (fd_tbi 189 (by decide +kernel) rfl)⟩
theorem fl_X5_29 : fd_Fl RX5 29 5 2 := ⟨RX5, TX5, 5, rfl, by decide, inX5, Or.inl (fd_tbi 362 (by decide +kernel) rfl)⟩
theorem fp_X5_2 : fd_Fp 5 2 .int := ⟨RX5, TX5, 5, tyX5, rfl, tyX5_ok, nmX5, rfl, rfl⟩
theorem fl_X5_20 : fd_Fl RX5 20 5 4 := ⟨RX5, TX5, 5, rfl, by decide, inX5, Or.inl (fd_tbi 365 (by decide +kernel) rfl)⟩
theorem fl_X11_40 : fd_Fl RX11 40 11 4 := ⟨RX11, TX11, 13, rfl, by decide, inX11, Or.inl (fd_tbi 477 (by decide +kernel) rfl)⟩
theorem fl_X11_54 : fd_Fl RX11 54 11 6 := ⟨RX11, TX11, 13, rfl, by decide, inX11, Or.inl (fd_tbi 479 (by decide +kernel) rfl)⟩
theorem yv_X1_read : fd_Yv yX1_read cX1_read 5 (some .int) RX1 3 := ⟨fd_tbi 619 (by decide +kernel) rfl, fd_tbi 620 (by decide +kernel) rfl, fd_tbi 108 (by decide +kernel) rfl, fd_tbi 621 (by decide +kernel) rfl, by decide, rfl, by decide, by decide, by decide +kernel⟩
theorem ml_X11_111 : Cond.methodLink RX11 111 yX1_read ∈ fd_TB := fd_tbi 618 (by decide +kernel) rfl
theorem fl_X1_40 : fd_Fl RX1 40 1 1 := ⟨RX1, TX1, 5, rfl, by decide, inX1, Or.inl (fd_tbi 243 (by decide +kernel) rfl)⟩
theorem fl_X1_21 : fd_Fl RX1 21 1 0 := ⟨RX1, TX1, 5, rfl, by decide, inX1, Or.inl (fd_tbi 239 (by decide +kernel) rfl)⟩
theorem fp_X1_1 : fd_Fp 1 1 .int := ⟨RX1, TX1, 5, tyX1, rfl, tyX1_ok, nmX1, rfl, rfl⟩
theorem ml_X1_43 : Cond.methodLink RX1 43 yX7_begin ∈ fd_TB := fd_tbi 622 (by decide +kernel) rfl
theorem yv_X1_readLine : fd_Yv yX1_readLine cX1_readLine 7 (some .boolean) RX1 3 := ⟨fd_tbi 625 (by decide +kernel) rfl, fd_tbi 6 (by decide +kernel) rfl, fd_tbi 108 (by decide +kernel) rfl, fd_tbi 626 (by decide +kernel) rfl, by decide, rfl, by decide, by decide, by decide +kernel⟩
theorem ml_X1_49 : Cond.methodLink RX1 49 yX1_readLine ∈ fd_TB := fd_tbi 623 (by decide +kernel) rfl
theorem ml_X1_53 : Cond.methodLink RX1 53 yX7_refusal ∈ fd_TB := fd_tbi 640 (by decide +kernel) rfl
theorem ml_X1_57 : Cond.methodLink RX1 57 yX7_take ∈ fd_TB := fd_tbi 633 (by decide +kernel) rfl
theorem ml_X1_61 : Cond.methodLink RX1 61 yX7_isWhole ∈ fd_TB := fd_tbi 641 (by decide +kernel) rfl
theorem yv_X1_settle : fd_Yv yX1_settle cX1_settle 2 (some .int) RX1 1 := ⟨fd_tbi 644 (by decide +kernel) rfl, fd_tbi 8 (by decide +kernel) rfl, fd_tbi 108 (by decide +kernel) rfl, fd_tbi 645 (by decide +kernel) rfl, by decide, rfl, by decide, by decide, by decide +kernel⟩
theorem ml_X1_65 : Cond.methodLink RX1 65 yX1_settle ∈ fd_TB := fd_tbi 642 (by decide +kernel) rfl
theorem fl_X1_69 : fd_Fl RX1 69 3 0 := ⟨RX3, TX3, 10, rfl, by decide, inX3, Or.inr ⟨RX11, fd_nwi 78 (by decide +kernel) rfl⟩⟩
theorem ml_X1_74 : Cond.methodLink RX1 74 yX7_takeLetter ∈ fd_TB := fd_tbi 627 (by decide +kernel) rfl
theorem yv_X1_readSpan : fd_Yv yX1_readSpan cX1_readSpan 5 (some .boolean) RX1 2 := ⟨fd_tbi 630 (by decide +kernel) rfl, fd_tbi 7 (by decide +kernel) rfl, fd_tbi 108 (by decide +kernel) rfl, fd_tbi 631 (by decide +kernel) rfl, by decide, rfl, by decide, by decide, by decide +kernel⟩
theorem ml_X1_77 : Cond.methodLink RX1 77 yX1_readSpan ∈ fd_TB := fd_tbi 628 (by decide +kernel) rfl
theorem ml_X1_81 : Cond.methodLink RX1 81 yX7_takeNumber ∈ fd_TB := fd_tbi 632 (by decide +kernel) rfl
theorem ml_X1_84 : Cond.methodLink RX1 84 yX7_look ∈ fd_TB := fd_tbi 639 (by decide +kernel) rfl
theorem fl_X1_9 : fd_Fl RX1 9 1 2 := ⟨RX1, TX1, 5, rfl, by decide, inX1, Or.inl (fd_tbi 244 (by decide +kernel) rfl)⟩
theorem fl_X1_15 : fd_Fl RX1 15 1 3 := ⟨RX1, TX1, 5, rfl, by decide, inX1, Or.inl (fd_tbi 247 (by decide +kernel) rfl)⟩
theorem fl_X1_18 : fd_Fl RX1 18 1 4 := ⟨RX1, TX1, 5, rfl, by decide, inX1, Or.inl (fd_tbi 249 (by decide +kernel) rfl)⟩
theorem ml_X1_87 : Cond.methodLink RX1 87 yX7_giveBack ∈ fd_TB := fd_tbi 634 (by decide +kernel) rfl
theorem yv_X10_tellSpan : fd_Yv yX10_tellSpan cX10_tellSpan 4 none RX10 3 := ⟨fd_tbi 636 (by decide +kernel) rfl, fd_tbi 637 (by decide +kernel) rfl, fd_tbi 110 (by decide +kernel) rfl, fd_tbi 638 (by decide +kernel) rfl, by decide, rfl, by decide, by decide, by decide +kernel⟩
theorem ml_X1_90 : Cond.methodLink RX1 90 yX10_tellSpan ∈ fd_TB := fd_tbi 635 (by decide +kernel) rfl
theorem fl_X10_15 : fd_Fl RX10 15 10 8 := ⟨RX10, TX10, 10, rfl, by decide, inX10, Or.inl (fd_tbi 326 (by decide +kernel) rfl)⟩
theorem fl_X10_19 : fd_Fl RX10 19 10 9 := ⟨RX10, TX10, 10, rfl, by decide, inX10, Or.inl (fd_tbi 328 (by decide +kernel) rfl)⟩
theorem fp_X1_0 : fd_Fp 1 0 .int := ⟨RX1, TX1, 5, tyX1, rfl, tyX1_ok, nmX1, rfl, rfl⟩
theorem fl_X11_47 : fd_Fl RX11 47 11 5 := ⟨RX11, TX11, 13, rfl, by decide, inX11, Or.inl (fd_tbi 478 (by decide +kernel) rfl)⟩
theorem yv_X2_read : fd_Yv yX2_read cX2_read 4 (some .int) RX2 1 := ⟨fd_tbi 651 (by decide +kernel) rfl, fd_tbi 652 (by decide +kernel) rfl, fd_tbi 109 (by decide +kernel) rfl, fd_tbi 653 (by decide +kernel) rfl, by decide, rfl, by decide, by decide, by decide +kernel⟩
theorem ml_X11_114 : Cond.methodLink RX11 114 yX2_read ∈ fd_TB := fd_tbi 650 (by decide +kernel) rfl
theorem ml_X2_31 : Cond.methodLink RX2 31 yX7_begin ∈ fd_TB := fd_tbi 654 (by decide +kernel) rfl
theorem ml_X2_37 : Cond.methodLink RX2 37 yX7_isWhole ∈ fd_TB := fd_tbi 655 (by decide +kernel) rfl
theorem fl_X2_41 : fd_Fl RX2 41 2 1 := ⟨RX2, TX2, 11, rfl, by decide, inX2, Or.inl (fd_tbi 269 (by decide +kernel) rfl)⟩
theorem fp_X2_1 : fd_Fp 2 1 .int := ⟨RX2, TX2, 11, tyX2, rfl, tyX2_ok, nmX2, rfl, rfl⟩
theorem yv_X2_beginDraft : fd_Yv yX2_beginDraft cX2_beginDraft 1 none RX2 0 := ⟨fd_tbi 658 (by decide +kernel) rfl, fd_tbi 9 (by decide +kernel) rfl, fd_tbi 109 (by decide +kernel) rfl, fd_tbi 659 (by decide +kernel) rfl, by decide, rfl, by decide, by decide, by decide +kernel⟩
theorem ml_X2_45 : Cond.methodLink RX2 45 yX2_beginDraft ∈ fd_TB := fd_tbi 656 (by decide +kernel) rfl
theorem ml_X2_48 : Cond.methodLink RX2 48 yX7_look ∈ fd_TB := fd_tbi 660 (by decide +kernel) rfl
theorem fl_X2_52 : fd_Fl RX2 52 2 8 := ⟨RX2, TX2, 11, rfl, by decide, inX2, Or.inl (fd_tbi 276 (by decide +kernel) rfl)⟩
theorem yv_X2_takeThing : fd_Yv yX2_takeThing cX2_takeThing 4 (some .boolean) RX2 1 := ⟨fd_tbi 663 (by decide +kernel) rfl, fd_tbi 10 (by decide +kernel) rfl, fd_tbi 109 (by decide +kernel) rfl, fd_tbi 664 (by decide +kernel) rfl, by decide, rfl, by decide, by decide, by decide +kernel⟩
theorem ml_X2_56 : Cond.methodLink RX2 56 yX2_takeThing ∈ fd_TB := fd_tbi 661 (by decide +kernel) rfl
theorem yv_X2_takeSign : fd_Yv yX2_takeSign cX2_takeSign 4 (some .boolean) RX2 1 := ⟨fd_tbi 722 (by decide +kernel) rfl, fd_tbi 14 (by decide +kernel) rfl, fd_tbi 109 (by decide +kernel) rfl, fd_tbi 723 (by decide +kernel) rfl, by decide, rfl, by decide, by decide, by decide +kernel⟩
theorem ml_X2_60 : Cond.methodLink RX2 60 yX2_takeSign ∈ fd_TB := fd_tbi 720 (by decide +kernel) rfl
theorem ml_X2_63 : Cond.methodLink RX2 63 yX7_refusal ∈ fd_TB := fd_tbi 735 (by decide +kernel) rfl
theorem fl_X2_66 : fd_Fl RX2 66 2 6 := ⟨RX2, TX2, 11, rfl, by decide, inX2, Or.inl (fd_tbi 274 (by decide +kernel) rfl)⟩
theorem yv_X2_release : fd_Yv yX2_release cX2_release 4 none RX2 1 := ⟨fd_tbi 726 (by decide +kernel) rfl, fd_tbi 15 (by decide +kernel) rfl, fd_tbi 109 (by decide +kernel) rfl, fd_tbi 727 (by decide +kernel) rfl, by decide, rfl, by decide, by decide, by decide +kernel⟩
theorem ml_X2_69 : Cond.methodLink RX2 69 yX2_release ∈ fd_TB := fd_tbi 724 (by decide +kernel) rfl
theorem fl_X2_72 : fd_Fl RX2 72 2 3 := ⟨RX2, TX2, 11, rfl, by decide, inX2, Or.inl (fd_tbi 271 (by decide +kernel) rfl)⟩
theorem fl_X2_11 : fd_Fl RX2 11 2 0 := ⟨RX2, TX2, 11, rfl, by decide, inX2, Or.inl (fd_tbi 268 (by decide +kernel) rfl)⟩
theorem fl_X2_15 : fd_Fl RX2 15 2 2 := ⟨RX2, TX2, 11, rfl, by decide, inX2, Or.inl (fd_tbi 270 (by decide +kernel) rfl)⟩
theorem fp_X2_3 : fd_Fp 2 3 .int := ⟨RX2, TX2, 11, tyX2, rfl, tyX2_ok, nmX2, rfl, rfl⟩
theorem fl_X2_75 : fd_Fl RX2 75 2 5 := ⟨RX2, TX2, 11, rfl, by decide, inX2, Or.inl (fd_tbi 273 (by decide +kernel) rfl)⟩
theorem fp_X2_5 : fd_Fp 2 5 .int := ⟨RX2, TX2, 11, tyX2, rfl, tyX2_ok, nmX2, rfl, rfl⟩
theorem fp_X2_6 : fd_Fp 2 6 .int := ⟨RX2, TX2, 11, tyX2, rfl, tyX2_ok, nmX2, rfl, rfl⟩
theorem fl_X2_21 : fd_Fl RX2 21 2 7 := ⟨RX2, TX2, 11, rfl, by decide, inX2, Or.inl (fd_tbi 275 (by decide +kernel) rfl)⟩
theorem fp_X2_8 : fd_Fp 2 8 .boolean := ⟨RX2, TX2, 11, tyX2, rfl, tyX2_ok, nmX2, rfl, rfl⟩
theorem ml_X2_78 : Cond.methodLink RX2 78 yX7_take ∈ fd_TB := fd_tbi 665 (by decide +kernel) rfl
theorem yv_X2_hold : fd_Yv yX2_hold cX2_hold 2 none RX2 1 := ⟨fd_tbi 668 (by decide +kernel) rfl, fd_tbi 11 (by decide +kernel) rfl, fd_tbi 109 (by decide +kernel) rfl, fd_tbi 669 (by decide +kernel) rfl, by decide, rfl, by decide, by decide, by decide +kernel⟩
theorem ml_X2_82 : Cond.methodLink RX2 82 yX2_hold ∈ fd_TB := fd_tbi 666 (by decide +kernel) rfl
theorem ml_X2_85 : Cond.methodLink RX2 85 yX7_takeNumber ∈ fd_TB := fd_tbi 670 (by decide +kernel) rfl
theorem yv_X2_letterAt : fd_Yv yX2_letterAt cX2_letterAt 3 (some .int) RX2 1 := ⟨fd_tbi 673 (by decide +kernel) rfl, fd_tbi 12 (by decide +kernel) rfl, fd_tbi 109 (by decide +kernel) rfl, fd_tbi 674 (by decide +kernel) rfl, by decide, rfl, by decide, by decide, by decide +kernel⟩
theorem ml_X2_89 : Cond.methodLink RX2 89 yX2_letterAt ∈ fd_TB := fd_tbi 671 (by decide +kernel) rfl
theorem yv_X2_write : fd_Yv yX2_write cX2_write 2 none RX2 1 := ⟨fd_tbi 718 (by decide +kernel) rfl, fd_tbi 13 (by decide +kernel) rfl, fd_tbi 109 (by decide +kernel) rfl, fd_tbi 719 (by decide +kernel) rfl, by decide, rfl, by decide, by decide, by decide +kernel⟩
theorem ml_X2_92 : Cond.methodLink RX2 92 yX2_write ∈ fd_TB := fd_tbi 716 (by decide +kernel) rfl
theorem fl_X2_18 : fd_Fl RX2 18 2 4 := ⟨RX2, TX2, 11, rfl, by decide, inX2, Or.inl (fd_tbi 272 (by decide +kernel) rfl)⟩
theorem yv_X2_rankOf : fd_Ys yX2_rankOf cX2_rankOf 1 (some .int) 1 := ⟨fd_tbi 729 (by decide +kernel) rfl, fd_tbi 109 (by decide +kernel) rfl, fd_tbi 730 (by decide +kernel) rfl, by decide, by decide, by decide, by decide +kernel⟩
theorem ml_X2_103 : Cond.methodLink RX2 103 yX2_rankOf ∈ fd_TB := fd_tbi 728 (by decide +kernel) rfl
theorem yv_X2_hasCompared : fd_Yv yX2_hasCompared cX2_hasCompared 1 (some .boolean) RX2 0 := ⟨fd_tbi 733 (by decide +kernel) rfl, fd_tbi 16 (by decide +kernel) rfl, fd_tbi 109 (by decide +kernel) rfl, fd_tbi 734 (by decide +kernel) rfl, by decide, rfl, by decide, by decide, by decide +kernel⟩
theorem ml_X2_106 : Cond.methodLink RX2 106 yX2_hasCompared ∈ fd_TB := fd_tbi 731 (by decide +kernel) rfl
theorem fl_X11_33 : fd_Fl RX11 33 11 3 := ⟨RX11, TX11, 13, rfl, by decide, inX11, Or.inl (fd_tbi 476 (by decide +kernel) rfl)⟩
theorem yv_X8_change : fd_Yv yX8_change cX8_change 6 (some .int) RX8 2 := ⟨fd_tbi 742 (by decide +kernel) rfl, fd_tbi 743 (by decide +kernel) rfl, fd_tbi 107 (by decide +kernel) rfl, fd_tbi 744 (by decide +kernel) rfl, by decide, rfl, by decide, by decide, by decide +kernel⟩
theorem ml_X11_163 : Cond.methodLink RX11 163 yX8_change ∈ fd_TB := fd_tbi 741 (by decide +kernel) rfl
theorem fl_X8_9 : fd_Fl RX8 9 8 0 := ⟨RX8, TX8, 4, rfl, by decide, inX8, Or.inl (fd_tbi 220 (by decide +kernel) rfl)⟩
theorem fp_X8_0 : fd_Fp 8 0 .int := ⟨RX8, TX8, 4, tyX8, rfl, tyX8_ok, nmX8, rfl, rfl⟩
theorem fl_X8_15 : fd_Fl RX8 15 8 1 := ⟨RX8, TX8, 4, rfl, by decide, inX8, Or.inl (fd_tbi 221 (by decide +kernel) rfl)⟩
theorem fp_X8_1 : fd_Fp 8 1 .int := ⟨RX8, TX8, 4, tyX8, rfl, tyX8_ok, nmX8, rfl, rfl⟩
theorem fl_X8_18 : fd_Fl RX8 18 8 2 := ⟨RX8, TX8, 4, rfl, by decide, inX8, Or.inl (fd_tbi 222 (by decide +kernel) rfl)⟩
theorem fp_X8_2 : fd_Fp 8 2 .int := ⟨RX8, TX8, 4, tyX8, rfl, tyX8_ok, nmX8, rfl, rfl⟩
theorem fl_X8_21 : fd_Fl RX8 21 8 3 := ⟨RX8, TX8, 4, rfl, by decide, inX8, Or.inl (fd_tbi 223 (by decide +kernel) rfl)⟩
theorem fp_X8_3 : fd_Fp 8 3 .int := ⟨RX8, TX8, 4, tyX8, rfl, tyX8_ok, nmX8, rfl, rfl⟩
theorem yv_X1_bidBySheet : fd_Yv yX1_bidBySheet cX1_bidBySheet 7 (some .int) RX1 4 := ⟨fd_tbi 750 (by decide +kernel) rfl, fd_tbi 751 (by decide +kernel) rfl, fd_tbi 108 (by decide +kernel) rfl, fd_tbi 752 (by decide +kernel) rfl, by decide, rfl, by decide, by decide, by decide +kernel⟩
theorem ml_X11_166 : Cond.methodLink RX11 166 yX1_bidBySheet ∈ fd_TB := fd_tbi 749 (by decide +kernel) rfl
theorem yv_X1_entry : fd_Yv yX1_entry cX1_entry 4 (some .int) RX1 2 := ⟨fd_tbi 755 (by decide +kernel) rfl, fd_tbi 17 (by decide +kernel) rfl, fd_tbi 108 (by decide +kernel) rfl, fd_tbi 756 (by decide +kernel) rfl, by decide, rfl, by decide, by decide, by decide +kernel⟩
theorem ml_X1_29 : Cond.methodLink RX1 29 yX1_entry ∈ fd_TB := fd_tbi 753 (by decide +kernel) rfl
theorem ml_X1_32 : Cond.methodLink RX1 32 Lib.Math.min.name ∈ fd_TB := fd_tbi 757 (by decide +kernel) rfl
theorem ml_X1_37 : Cond.methodLink RX1 37 Lib.Math.max.name ∈ fd_TB := fd_tbi 758 (by decide +kernel) rfl
theorem yv_X11_refusalToGo : fd_Yv yX11_refusalToGo cX11_refusalToGo 2 (some .int) RX11 1 := ⟨fd_tbi 767 (by decide +kernel) rfl, fd_tbi 18 (by decide +kernel) rfl, fd_tbi 103 (by decide +kernel) rfl, fd_tbi 768 (by decide +kernel) rfl, by decide, rfl, by decide, by decide, by decide +kernel⟩
theorem ml_X11_170 : Cond.methodLink RX11 170 yX11_refusalToGo ∈ fd_TB := fd_tbi 765 (by decide +kernel) rfl
theorem yv_X5_push : fd_Yv yX5_push cX5_push 3 none RX5 1 := ⟨fd_tbi 787 (by decide +kernel) rfl, fd_tbi 788 (by decide +kernel) rfl, fd_tbi 111 (by decide +kernel) rfl, fd_tbi 789 (by decide +kernel) rfl, by decide, rfl, by decide, by decide, by decide +kernel⟩
theorem ml_X11_173 : Cond.methodLink RX11 173 yX5_push ∈ fd_TB := fd_tbi 786 (by decide +kernel) rfl
theorem fl_X11_177 : fd_Fl RX11 177 10 2 := ⟨RX10, TX10, 10, rfl, by decide, inX10, Or.inr ⟨RX11, fd_nwi 213 (by decide +kernel) rfl⟩⟩
theorem fl_X11_134 : fd_Fl RX11 134 10 1 := ⟨RX10, TX10, 10, rfl, by decide, inX10, Or.inr ⟨RX11, fd_nwi 211 (by decide +kernel) rfl⟩⟩
theorem yv_X3_miles : fd_Yv yX3_miles cX3_miles 3 (some .int) RX3 2 := ⟨fd_tbi 783 (by decide +kernel) rfl, fd_tbi 784 (by decide +kernel) rfl, fd_tbi 106 (by decide +kernel) rfl, fd_tbi 785 (by decide +kernel) rfl, by decide, rfl, by decide, by decide, by decide +kernel⟩
theorem ml_X11_137 : Cond.methodLink RX11 137 yX3_miles ∈ fd_TB := fd_tbi 798 (by decide +kernel) rfl
theorem yv_X11_spendNight : fd_Yv yX11_spendNight cX11_spendNight 4 (some .int) RX11 2 := ⟨fd_tbi 801 (by decide +kernel) rfl, fd_tbi 20 (by decide +kernel) rfl, fd_tbi 103 (by decide +kernel) rfl, fd_tbi 802 (by decide +kernel) rfl, by decide, rfl, by decide, by decide, by decide +kernel⟩
theorem ml_X11_180 : Cond.methodLink RX11 180 yX11_spendNight ∈ fd_TB := fd_tbi 799 (by decide +kernel) rfl
theorem fl_X11_19 : fd_Fl RX11 19 11 1 := ⟨RX11, TX11, 13, rfl, by decide, inX11, Or.inl (fd_tbi 474 (by decide +kernel) rfl)⟩
theorem yv_X4_clear : fd_Yv yX4_clear cX4_clear 1 none RX4 0 := ⟨fd_tbi 874 (by decide +kernel) rfl, fd_tbi 875 (by decide +kernel) rfl, fd_tbi 105 (by decide +kernel) rfl, fd_tbi 876 (by decide +kernel) rfl, by decide, rfl, by decide, by decide, by decide +kernel⟩
theorem ml_X11_184 : Cond.methodLink RX11 184 yX4_clear ∈ fd_TB := fd_tbi 873 (by decide +kernel) rfl
theorem fl_X11_185 : fd_Fl RX11 185 10 7 := ⟨RX10, TX10, 10, rfl, by decide, inX10, Or.inr ⟨RX11, fd_nwi 223 (by decide +kernel) rfl⟩⟩
theorem yv_X4_add : fd_Yv yX4_add cX4_add 3 none RX4 1 := ⟨fd_tbi 878 (by decide +kernel) rfl, fd_tbi 879 (by decide +kernel) rfl, fd_tbi 105 (by decide +kernel) rfl, fd_tbi 880 (by decide +kernel) rfl, by decide, rfl, by decide, by decide, by decide +kernel⟩
theorem ml_X11_188 : Cond.methodLink RX11 188 yX4_add ∈ fd_TB := fd_tbi 877 (by decide +kernel) rfl
theorem ml_X11_115 : Cond.methodLink RX11 115 yX3_has ∈ fd_TB := fd_tbi 769 (by decide +kernel) rfl
theorem fl_X11_127 : fd_Fl RX11 127 10 0 := ⟨RX10, TX10, 10, rfl, by decide, inX10, Or.inr ⟨RX11, fd_nwi 209 (by decide +kernel) rfl⟩⟩
theorem yv_X8_walk : fd_Yv yX8_walk cX8_walk 2 (some .int) RX8 1 := ⟨fd_tbi 771 (by decide +kernel) rfl, fd_tbi 772 (by decide +kernel) rfl, fd_tbi 107 (by decide +kernel) rfl, fd_tbi 773 (by decide +kernel) rfl, by decide, rfl, by decide, by decide, by decide +kernel⟩
theorem ml_X11_230 : Cond.methodLink RX11 230 yX8_walk ∈ fd_TB := fd_tbi 770 (by decide +kernel) rfl
theorem yv_X3_canWalk : fd_Yv yX3_canWalk cX3_canWalk 5 (some .boolean) RX3 3 := ⟨fd_tbi 779 (by decide +kernel) rfl, fd_tbi 780 (by decide +kernel) rfl, fd_tbi 106 (by decide +kernel) rfl, fd_tbi 781 (by decide +kernel) rfl, by decide, rfl, by decide, by decide, by decide +kernel⟩
theorem ml_X11_373 : Cond.methodLink RX11 373 yX3_canWalk ∈ fd_TB := fd_tbi 778 (by decide +kernel) rfl
theorem yv_X8_isMoonless : fd_Yv yX8_isMoonless cX8_isMoonless 2 (some .boolean) RX8 1 := ⟨fd_tbi 775 (by decide +kernel) rfl, fd_tbi 776 (by decide +kernel) rfl, fd_tbi 107 (by decide +kernel) rfl, fd_tbi 777 (by decide +kernel) rfl, by decide, rfl, by decide, by decide, by decide +kernel⟩
theorem ml_X8_24 : Cond.methodLink RX8 24 yX8_isMoonless ∈ fd_TB := fd_tbi 774 (by decide +kernel) rfl
theorem ml_X3_102 : Cond.methodLink RX3 102 yX3_miles ∈ fd_TB := fd_tbi 782 (by decide +kernel) rfl
theorem fl_X5_25 : fd_Fl RX5 25 5 1 := ⟨RX5, TX5, 5, rfl, by decide, inX5, Or.inl (fd_tbi 361 (by decide +kernel) rfl)⟩
theorem fp_X5_1 : fd_Fp 5 1 .int := ⟨RX5, TX5, 5, tyX5, rfl, tyX5_ok, nmX5, rfl, rfl⟩
theorem yv_X5_inRing : fd_Yv yX5_inRing cX5_inRing 3 (some (.object RX10)) RX5 1 := ⟨fd_tbi 792 (by decide +kernel) rfl, fd_tbi 19 (by decide +kernel) rfl, fd_tbi 111 (by decide +kernel) rfl, fd_tbi 793 (by decide +kernel) rfl, by decide, rfl, by decide, by decide, by decide +kernel⟩
theorem ml_X5_32 : Cond.methodLink RX5 32 yX5_inRing ∈ fd_TB := fd_tbi 790 (by decide +kernel) rfl
theorem yv_X10_copyFrom : fd_Yv yX10_copyFrom cX10_copyFrom 3 none RX10 1 := ⟨fd_tbi 795 (by decide +kernel) rfl, fd_tbi 796 (by decide +kernel) rfl, fd_tbi 110 (by decide +kernel) rfl, fd_tbi 797 (by decide +kernel) rfl, by decide, rfl, by decide, by decide, by decide +kernel⟩
theorem ml_X5_36 : Cond.methodLink RX5 36 yX10_copyFrom ∈ fd_TB := fd_tbi 794 (by decide +kernel) rfl
theorem fl_X5_13 : fd_Fl RX5 13 5 0 := ⟨RX5, TX5, 5, rfl, by decide, inX5, Or.inl (fd_tbi 360 (by decide +kernel) rfl)⟩
theorem fl_X10_22 : fd_Fl RX10 22 10 0 := ⟨RX10, TX10, 10, rfl, by decide, inX10, Or.inl (fd_tbi 309 (by decide +kernel) rfl)⟩
theorem fp_X10_0 : fd_Fp 10 0 .int := ⟨RX10, TX10, 10, tyX10, rfl, tyX10_ok, nmX10, rfl, rfl⟩
theorem fl_X10_25 : fd_Fl RX10 25 10 1 := ⟨RX10, TX10, 10, rfl, by decide, inX10, Or.inl (fd_tbi 312 (by decide +kernel) rfl)⟩
theorem fp_X10_1 : fd_Fp 10 1 .int := ⟨RX10, TX10, 10, tyX10, rfl, tyX10_ok, nmX10, rfl, rfl⟩
theorem fl_X10_28 : fd_Fl RX10 28 10 2 := ⟨RX10, TX10, 10, rfl, by decide, inX10, Or.inl (fd_tbi 314 (by decide +kernel) rfl)⟩
theorem fp_X10_2 : fd_Fp 10 2 .int := ⟨RX10, TX10, 10, tyX10, rfl, tyX10_ok, nmX10, rfl, rfl⟩
theorem fl_X10_31 : fd_Fl RX10 31 10 3 := ⟨RX10, TX10, 10, rfl, by decide, inX10, Or.inl (fd_tbi 316 (by decide +kernel) rfl)⟩
theorem fp_X10_3 : fd_Fp 10 3 .int := ⟨RX10, TX10, 10, tyX10, rfl, tyX10_ok, nmX10, rfl, rfl⟩
theorem fl_X10_9 : fd_Fl RX10 9 10 4 := ⟨RX10, TX10, 10, rfl, by decide, inX10, Or.inl (fd_tbi 318 (by decide +kernel) rfl)⟩
theorem fp_X10_4 : fd_Fp 10 4 .int := ⟨RX10, TX10, 10, tyX10, rfl, tyX10_ok, nmX10, rfl, rfl⟩
theorem fl_X10_34 : fd_Fl RX10 34 10 5 := ⟨RX10, TX10, 10, rfl, by decide, inX10, Or.inl (fd_tbi 320 (by decide +kernel) rfl)⟩
theorem fp_X10_5 : fd_Fp 10 5 .int := ⟨RX10, TX10, 10, tyX10, rfl, tyX10_ok, nmX10, rfl, rfl⟩
theorem fl_X10_37 : fd_Fl RX10 37 10 6 := ⟨RX10, TX10, 10, rfl, by decide, inX10, Or.inl (fd_tbi 322 (by decide +kernel) rfl)⟩
theorem fp_X10_6 : fd_Fp 10 6 .int := ⟨RX10, TX10, 10, tyX10, rfl, tyX10_ok, nmX10, rfl, rfl⟩
theorem yv_X10_pass : fd_Yv yX10_pass cX10_pass 13 (some .int) RX10 5 := ⟨fd_tbi 804 (by decide +kernel) rfl, fd_tbi 805 (by decide +kernel) rfl, fd_tbi 110 (by decide +kernel) rfl, fd_tbi 806 (by decide +kernel) rfl, by decide, rfl, by decide, by decide, by decide +kernel⟩
theorem ml_X11_405 : Cond.methodLink RX11 405 yX10_pass ∈ fd_TB := fd_tbi 803 (by decide +kernel) rfl
theorem fl_X11_195 : fd_Fl RX11 195 11 12 := ⟨RX11, TX11, 13, rfl, by decide, inX11, Or.inl (fd_tbi 485 (by decide +kernel) rfl)⟩
theorem fp_X11_12 : fd_Fp 11 12 .int := ⟨RX11, TX11, 13, tyX11, rfl, tyX11_ok, nmX11, rfl, rfl⟩
theorem ml_X10_54 : Cond.methodLink RX10 54 yX3_miles ∈ fd_TB := fd_tbi 807 (by decide +kernel) rfl
theorem ml_X10_60 : Cond.methodLink RX10 60 Lib.Math.max.name ∈ fd_TB := fd_tbi 808 (by decide +kernel) rfl
theorem yv_X8_isLent : fd_Yv yX8_isLent cX8_isLent 2 (some .boolean) RX8 1 := ⟨fd_tbi 810 (by decide +kernel) rfl, fd_tbi 811 (by decide +kernel) rfl, fd_tbi 107 (by decide +kernel) rfl, fd_tbi 812 (by decide +kernel) rfl, by decide, rfl, by decide, by decide, by decide +kernel⟩
theorem ml_X10_65 : Cond.methodLink RX10 65 yX8_isLent ∈ fd_TB := fd_tbi 809 (by decide +kernel) rfl
theorem yv_X10_openAt : fd_Yv yX10_openAt cX10_openAt 7 (some .int) RX10 3 := ⟨fd_tbi 814 (by decide +kernel) rfl, fd_tbi 815 (by decide +kernel) rfl, fd_tbi 110 (by decide +kernel) rfl, fd_tbi 816 (by decide +kernel) rfl, by decide, rfl, by decide, by decide, by decide +kernel⟩
theorem ml_X10_70 : Cond.methodLink RX10 70 yX10_openAt ∈ fd_TB := fd_tbi 813 (by decide +kernel) rfl
theorem yv_X1_tunesOf : fd_Yv yX1_tunesOf cX1_tunesOf 4 (some .int) RX1 1 := ⟨fd_tbi 822 (by decide +kernel) rfl, fd_tbi 823 (by decide +kernel) rfl, fd_tbi 108 (by decide +kernel) rfl, fd_tbi 824 (by decide +kernel) rfl, by decide, rfl, by decide, by decide, by decide +kernel⟩
theorem ml_X10_74 : Cond.methodLink RX10 74 yX1_tunesOf ∈ fd_TB := fd_tbi 821 (by decide +kernel) rfl
theorem fl_X10_81 : fd_Fl RX10 81 10 7 := ⟨RX10, TX10, 10, rfl, by decide, inX10, Or.inl (fd_tbi 324 (by decide +kernel) rfl)⟩
theorem yv_X1_bidsOf : fd_Yv yX1_bidsOf cX1_bidsOf 5 (some .int) RX1 2 := ⟨fd_tbi 826 (by decide +kernel) rfl, fd_tbi 827 (by decide +kernel) rfl, fd_tbi 108 (by decide +kernel) rfl, fd_tbi 828 (by decide +kernel) rfl, by decide, rfl, by decide, by decide, by decide +kernel⟩
theorem ml_X10_78 : Cond.methodLink RX10 78 yX1_bidsOf ∈ fd_TB := fd_tbi 825 (by decide +kernel) rfl
theorem fp_X10_7 : fd_Fp 10 7 .int := ⟨RX10, TX10, 10, tyX10, rfl, tyX10_ok, nmX10, rfl, rfl⟩
theorem yv_X10_wearStrings : fd_Yv yX10_wearStrings cX10_wearStrings 3 none RX10 1 := ⟨fd_tbi 835 (by decide +kernel) rfl, fd_tbi 21 (by decide +kernel) rfl, fd_tbi 110 (by decide +kernel) rfl, fd_tbi 836 (by decide +kernel) rfl, by decide, rfl, by decide, by decide, by decide +kernel⟩
theorem ml_X10_84 : Cond.methodLink RX10 84 yX10_wearStrings ∈ fd_TB := fd_tbi 833 (by decide +kernel) rfl
theorem yv_X3_foodOf : fd_Yv yX3_foodOf cX3_foodOf 2 (some .int) RX3 1 := ⟨fd_tbi 838 (by decide +kernel) rfl, fd_tbi 839 (by decide +kernel) rfl, fd_tbi 106 (by decide +kernel) rfl, fd_tbi 840 (by decide +kernel) rfl, by decide, rfl, by decide, by decide, by decide +kernel⟩
theorem ml_X10_88 : Cond.methodLink RX10 88 yX3_foodOf ∈ fd_TB := fd_tbi 837 (by decide +kernel) rfl
theorem yv_X2_tellWalk : fd_Yv yX2_tellWalk cX2_tellWalk 4 none RX2 3 := ⟨fd_tbi 842 (by decide +kernel) rfl, fd_tbi 843 (by decide +kernel) rfl, fd_tbi 109 (by decide +kernel) rfl, fd_tbi 844 (by decide +kernel) rfl, by decide, rfl, by decide, by decide, by decide +kernel⟩
theorem ml_X10_91 : Cond.methodLink RX10 91 yX2_tellWalk ∈ fd_TB := fd_tbi 841 (by decide +kernel) rfl
theorem yv_X2_tellBefore : fd_Yv yX2_tellBefore cX2_tellBefore 4 none RX2 3 := ⟨fd_tbi 846 (by decide +kernel) rfl, fd_tbi 847 (by decide +kernel) rfl, fd_tbi 109 (by decide +kernel) rfl, fd_tbi 848 (by decide +kernel) rfl, by decide, rfl, by decide, by decide, by decide +kernel⟩
theorem ml_X10_97 : Cond.methodLink RX10 97 yX2_tellBefore ∈ fd_TB := fd_tbi 845 (by decide +kernel) rfl
theorem yv_X2_work : fd_Yv yX2_work cX2_work 4 (some .int) RX2 0 := ⟨fd_tbi 850 (by decide +kernel) rfl, fd_tbi 851 (by decide +kernel) rfl, fd_tbi 109 (by decide +kernel) rfl, fd_tbi 852 (by decide +kernel) rfl, by decide, rfl, by decide, by decide, by decide +kernel⟩
theorem ml_X10_100 : Cond.methodLink RX10 100 yX2_work ∈ fd_TB := fd_tbi 849 (by decide +kernel) rfl
theorem cw_X10_104 : Cond.constantLong RX10 104 (99 : Int64) ∈ fd_TB := fd_tbi 860 (by decide +kernel) rfl
theorem ml_X10_106 : Cond.methodLink RX10 106 Lib.MathLoose.min_long.x ∈ fd_TB := fd_tbi 861 (by decide +kernel) rfl
theorem ml_X10_110 : Cond.methodLink RX10 110 Lib.MathLoose.max_long.x ∈ fd_TB := fd_tbi 864 (by decide +kernel) rfl
theorem yv_J6_bitCount_0f7a4 : fd_Ys yJ6_bitCount_0f7a4 cJ6_bitCount_0f7a4 1 (some .int) 1 := ⟨fd_tbi 868 (by decide +kernel) rfl, fd_tbi 125 (by decide +kernel) rfl, fd_tbi 869 (by decide +kernel) rfl, by decide, by decide, by decide, by decide +kernel⟩
theorem ml_X10_112 : Cond.methodLink RX10 112 yJ6_bitCount_0f7a4 ∈ fd_TB := fd_tbi 867 (by decide +kernel) rfl
theorem fl_X10_47 : fd_Fl RX10 47 1 0 := ⟨RX1, TX1, 5, rfl, by decide, inX1, Or.inr ⟨RX11, fd_nwi 139 (by decide +kernel) rfl⟩⟩
theorem fl_X10_52 : fd_Fl RX10 52 1 2 := ⟨RX1, TX1, 5, rfl, by decide, inX1, Or.inr ⟨RX11, fd_nwi 143 (by decide +kernel) rfl⟩⟩
theorem yv_X10_wasPlayed : fd_Yv yX10_wasPlayed cX10_wasPlayed 2 (some .boolean) RX10 1 := ⟨fd_tbi 818 (by decide +kernel) rfl, fd_tbi 819 (by decide +kernel) rfl, fd_tbi 110 (by decide +kernel) rfl, fd_tbi 820 (by decide +kernel) rfl, by decide, rfl, by decide, by decide, by decide +kernel⟩
theorem ml_X10_40 : Cond.methodLink RX10 40 yX10_wasPlayed ∈ fd_TB := fd_tbi 817 (by decide +kernel) rfl
theorem yv_X1_bidFor : fd_Yv yX1_bidFor cX1_bidFor 3 (some .int) RX1 2 := ⟨fd_tbi 830 (by decide +kernel) rfl, fd_tbi 831 (by decide +kernel) rfl, fd_tbi 108 (by decide +kernel) rfl, fd_tbi 832 (by decide +kernel) rfl, by decide, rfl, by decide, by decide, by decide +kernel⟩
theorem ml_X1_25 : Cond.methodLink RX1 25 yX1_bidFor ∈ fd_TB := fd_tbi 829 (by decide +kernel) rfl
theorem fl_X2_28 : fd_Fl RX2 28 2 10 := ⟨RX2, TX2, 11, rfl, by decide, inX2, Or.inl (fd_tbi 278 (by decide +kernel) rfl)⟩
theorem fl_X2_25 : fd_Fl RX2 25 2 9 := ⟨RX2, TX2, 11, rfl, by decide, inX2, Or.inl (fd_tbi 277 (by decide +kernel) rfl)⟩
theorem yv_X2_valueOf : fd_Yv yX2_valueOf cX2_valueOf 3 (some .int) RX2 1 := ⟨fd_tbi 855 (by decide +kernel) rfl, fd_tbi 22 (by decide +kernel) rfl, fd_tbi 109 (by decide +kernel) rfl, fd_tbi 856 (by decide +kernel) rfl, by decide, rfl, by decide, by decide, by decide +kernel⟩
theorem ml_X2_109 : Cond.methodLink RX2 109 yX2_valueOf ∈ fd_TB := fd_tbi 853 (by decide +kernel) rfl
theorem yv_X2_join : fd_Ys yX2_join cX2_join 3 (some .int) 3 := ⟨fd_tbi 858 (by decide +kernel) rfl, fd_tbi 109 (by decide +kernel) rfl, fd_tbi 859 (by decide +kernel) rfl, by decide, by decide, by decide, by decide +kernel⟩
theorem ml_X2_112 : Cond.methodLink RX2 112 yX2_join ∈ fd_TB := fd_tbi 857 (by decide +kernel) rfl
theorem cw_J6_265 : Cond.constant RJ6 265 (1431655765 : Int32) ∈ fd_TB := fd_tbi 870 (by decide +kernel) rfl
theorem cw_J6_266 : Cond.constant RJ6 266 (858993459 : Int32) ∈ fd_TB := fd_tbi 871 (by decide +kernel) rfl
theorem cw_J6_267 : Cond.constant RJ6 267 (252645135 : Int32) ∈ fd_TB := fd_tbi 872 (by decide +kernel) rfl
theorem fl_X4_15 : fd_Fl RX4 15 4 1 := ⟨RX4, TX4, 2, rfl, by decide, inX4, Or.inl (fd_tbi 162 (by decide +kernel) rfl)⟩
theorem fp_X4_1 : fd_Fp 4 1 .int := ⟨RX4, TX4, 2, tyX4, rfl, tyX4_ok, nmX4, rfl, rfl⟩
theorem fl_X4_11 : fd_Fl RX4 11 4 0 := ⟨RX4, TX4, 2, rfl, by decide, inX4, Or.inl (fd_tbi 161 (by decide +kernel) rfl)⟩
theorem yv_X11_refusalToStay : fd_Yv yX11_refusalToStay cX11_refusalToStay 2 (some .int) RX11 1 := ⟨fd_tbi 887 (by decide +kernel) rfl, fd_tbi 23 (by decide +kernel) rfl, fd_tbi 103 (by decide +kernel) rfl, fd_tbi 888 (by decide +kernel) rfl, by decide, rfl, by decide, by decide, by decide +kernel⟩
theorem ml_X11_192 : Cond.methodLink RX11 192 yX11_refusalToStay ∈ fd_TB := fd_tbi 885 (by decide +kernel) rfl
theorem yv_X11_sleepOn : fd_Yv yX11_sleepOn cX11_sleepOn 4 (some .int) RX11 1 := ⟨fd_tbi 891 (by decide +kernel) rfl, fd_tbi 24 (by decide +kernel) rfl, fd_tbi 103 (by decide +kernel) rfl, fd_tbi 892 (by decide +kernel) rfl, by decide, rfl, by decide, by decide, by decide +kernel⟩
theorem ml_X11_198 : Cond.methodLink RX11 198 yX11_sleepOn ∈ fd_TB := fd_tbi 889 (by decide +kernel) rfl
theorem fl_X11_261 : fd_Fl RX11 261 3 0 := ⟨RX3, TX3, 10, rfl, by decide, inX3, Or.inr ⟨RX11, fd_nwi 79 (by decide +kernel) rfl⟩⟩
theorem yv_X10_canMend : fd_Yv yX10_canMend cX10_canMend 1 (some .boolean) RX10 0 := ⟨fd_tbi 898 (by decide +kernel) rfl, fd_tbi 899 (by decide +kernel) rfl, fd_tbi 110 (by decide +kernel) rfl, fd_tbi 900 (by decide +kernel) rfl, by decide, rfl, by decide, by decide, by decide +kernel⟩
theorem ml_X11_201 : Cond.methodLink RX11 201 yX10_canMend ∈ fd_TB := fd_tbi 897 (by decide +kernel) rfl
theorem yv_X10_buyStrings : fd_Yv yX10_buyStrings cX10_buyStrings 2 (some .int) RX10 0 := ⟨fd_tbi 902 (by decide +kernel) rfl, fd_tbi 903 (by decide +kernel) rfl, fd_tbi 110 (by decide +kernel) rfl, fd_tbi 904 (by decide +kernel) rfl, by decide, rfl, by decide, by decide, by decide +kernel⟩
theorem ml_X11_205 : Cond.methodLink RX11 205 yX10_buyStrings ∈ fd_TB := fd_tbi 901 (by decide +kernel) rfl
theorem yv_X1_has : fd_Yv yX1_has cX1_has 2 (some .boolean) RX1 1 := ⟨fd_tbi 910 (by decide +kernel) rfl, fd_tbi 911 (by decide +kernel) rfl, fd_tbi 108 (by decide +kernel) rfl, fd_tbi 912 (by decide +kernel) rfl, by decide, rfl, by decide, by decide, by decide +kernel⟩
theorem ml_X11_141 : Cond.methodLink RX11 141 yX1_has ∈ fd_TB := fd_tbi 909 (by decide +kernel) rfl
theorem ml_X11_157 : Cond.methodLink RX11 157 yX10_wasPlayed ∈ fd_TB := fd_tbi 913 (by decide +kernel) rfl
theorem fl_X11_145 : fd_Fl RX11 145 10 8 := ⟨RX10, TX10, 10, rfl, by decide, inX10, Or.inr ⟨RX11, fd_nwi 225 (by decide +kernel) rfl⟩⟩
theorem fl_X11_148 : fd_Fl RX11 148 10 9 := ⟨RX10, TX10, 10, rfl, by decide, inX10, Or.inr ⟨RX11, fd_nwi 227 (by decide +kernel) rfl⟩⟩
theorem fl_X11_71 : fd_Fl RX11 71 11 9 := ⟨RX11, TX11, 13, rfl, by decide, inX11, Or.inl (fd_tbi 482 (by decide +kernel) rfl)⟩
theorem yv_X0_read : fd_Yv yX0_read cX0_read 3 (some .int) RX0 1 := ⟨fd_tbi 919 (by decide +kernel) rfl, fd_tbi 920 (by decide +kernel) rfl, fd_tbi 112 (by decide +kernel) rfl, fd_tbi 921 (by decide +kernel) rfl, by decide, rfl, by decide, by decide, by decide +kernel⟩
theorem ml_X11_209 : Cond.methodLink RX11 209 yX0_read ∈ fd_TB := fd_tbi 918 (by decide +kernel) rfl
theorem fl_X11_58 : fd_Fl RX11 58 11 7 := ⟨RX11, TX11, 13, rfl, by decide, inX11, Or.inl (fd_tbi 480 (by decide +kernel) rfl)⟩
theorem ml_X11_210 : Cond.methodLink RX11 210 yX10_copyFrom ∈ fd_TB := fd_tbi 933 (by decide +kernel) rfl
theorem yv_X0_kindOf : fd_Yv yX0_kindOf cX0_kindOf 2 (some .int) RX0 1 := ⟨fd_tbi 935 (by decide +kernel) rfl, fd_tbi 936 (by decide +kernel) rfl, fd_tbi 112 (by decide +kernel) rfl, fd_tbi 937 (by decide +kernel) rfl, by decide, rfl, by decide, by decide, by decide +kernel⟩
theorem ml_X11_213 : Cond.methodLink RX11 213 yX0_kindOf ∈ fd_TB := fd_tbi 934 (by decide +kernel) rfl
theorem yv_X0_numberOf : fd_Yv yX0_numberOf cX0_numberOf 2 (some .int) RX0 1 := ⟨fd_tbi 939 (by decide +kernel) rfl, fd_tbi 940 (by decide +kernel) rfl, fd_tbi 112 (by decide +kernel) rfl, fd_tbi 941 (by decide +kernel) rfl, by decide, rfl, by decide, by decide, by decide +kernel⟩
theorem ml_X11_216 : Cond.methodLink RX11 216 yX0_numberOf ∈ fd_TB := fd_tbi 938 (by decide +kernel) rfl
theorem yv_X11_doAct : fd_Yv yX11_doAct cX11_doAct 4 (some .int) RX11 2 := ⟨fd_tbi 944 (by decide +kernel) rfl, fd_tbi 26 (by decide +kernel) rfl, fd_tbi 103 (by decide +kernel) rfl, fd_tbi 945 (by decide +kernel) rfl, by decide, rfl, by decide, by decide, by decide +kernel⟩
theorem ml_X11_219 : Cond.methodLink RX11 219 yX11_doAct ∈ fd_TB := fd_tbi 942 (by decide +kernel) rfl
theorem ml_X0_18 : Cond.methodLink RX0 18 yX7_begin ∈ fd_TB := fd_tbi 922 (by decide +kernel) rfl
theorem ml_X0_24 : Cond.methodLink RX0 24 yX7_isWhole ∈ fd_TB := fd_tbi 923 (by decide +kernel) rfl
theorem yv_X0_readAct : fd_Yv yX0_readAct cX0_readAct 5 (some .boolean) RX0 2 := ⟨fd_tbi 926 (by decide +kernel) rfl, fd_tbi 25 (by decide +kernel) rfl, fd_tbi 112 (by decide +kernel) rfl, fd_tbi 927 (by decide +kernel) rfl, by decide, rfl, by decide, by decide, by decide +kernel⟩
theorem ml_X0_28 : Cond.methodLink RX0 28 yX0_readAct ∈ fd_TB := fd_tbi 924 (by decide +kernel) rfl
theorem ml_X0_32 : Cond.methodLink RX0 32 yX7_refusal ∈ fd_TB := fd_tbi 932 (by decide +kernel) rfl
theorem ml_X0_36 : Cond.methodLink RX0 36 yX7_take ∈ fd_TB := fd_tbi 929 (by decide +kernel) rfl
theorem ml_X0_40 : Cond.methodLink RX0 40 yX7_look ∈ fd_TB := fd_tbi 928 (by decide +kernel) rfl
theorem ml_X0_43 : Cond.methodLink RX0 43 yX7_takeLetter ∈ fd_TB := fd_tbi 930 (by decide +kernel) rfl
theorem ml_X0_47 : Cond.methodLink RX0 47 yX7_takeNumber ∈ fd_TB := fd_tbi 931 (by decide +kernel) rfl
theorem fl_X0_11 : fd_Fl RX0 11 0 0 := ⟨RX0, TX0, 2, rfl, by decide, inX0, Or.inl (fd_tbi 383 (by decide +kernel) rfl)⟩
theorem fl_X0_15 : fd_Fl RX0 15 0 1 := ⟨RX0, TX0, 2, rfl, by decide, inX0, Or.inl (fd_tbi 384 (by decide +kernel) rfl)⟩
theorem yv_X5_takeBack : fd_Yv yX5_takeBack cX5_takeBack 3 (some .int) RX5 1 := ⟨fd_tbi 951 (by decide +kernel) rfl, fd_tbi 952 (by decide +kernel) rfl, fd_tbi 111 (by decide +kernel) rfl, fd_tbi 953 (by decide +kernel) rfl, by decide, rfl, by decide, by decide, by decide +kernel⟩
theorem ml_X11_222 : Cond.methodLink RX11 222 yX5_takeBack ∈ fd_TB := fd_tbi 950 (by decide +kernel) rfl
theorem yv_X3_tellWay : fd_Yv yX3_tellWay cX3_tellWay 6 none RX3 3 := ⟨fd_tbi 959 (by decide +kernel) rfl, fd_tbi 960 (by decide +kernel) rfl, fd_tbi 106 (by decide +kernel) rfl, fd_tbi 961 (by decide +kernel) rfl, by decide, rfl, by decide, by decide, by decide +kernel⟩
theorem ml_X11_226 : Cond.methodLink RX11 226 yX3_tellWay ∈ fd_TB := fd_tbi 958 (by decide +kernel) rfl
theorem ml_X3_104 : Cond.methodLink RX3 104 yX4_add ∈ fd_TB := fd_tbi 962 (by decide +kernel) rfl
theorem yv_X3_leastNext : fd_Yv yX3_leastNext cX3_leastNext 4 (some .int) RX3 2 := ⟨fd_tbi 965 (by decide +kernel) rfl, fd_tbi 27 (by decide +kernel) rfl, fd_tbi 106 (by decide +kernel) rfl, fd_tbi 966 (by decide +kernel) rfl, by decide, rfl, by decide, by decide, by decide +kernel⟩
theorem ml_X3_110 : Cond.methodLink RX3 110 yX3_leastNext ∈ fd_TB := fd_tbi 963 (by decide +kernel) rfl
theorem yv_X3_near : fd_Yv yX3_near cX3_near 5 (some .int) RX3 2 := ⟨fd_tbi 972 (by decide +kernel) rfl, fd_tbi 973 (by decide +kernel) rfl, fd_tbi 106 (by decide +kernel) rfl, fd_tbi 974 (by decide +kernel) rfl, by decide, rfl, by decide, by decide, by decide +kernel⟩
theorem ml_X11_233 : Cond.methodLink RX11 233 yX3_near ∈ fd_TB := fd_tbi 971 (by decide +kernel) rfl
theorem fl_X11_78 : fd_Fl RX11 78 11 10 := ⟨RX11, TX11, 13, rfl, by decide, inX11, Or.inl (fd_tbi 483 (by decide +kernel) rfl)⟩
theorem yv_X6_layWays : fd_Yv yX6_layWays cX6_layWays 8 none RX6 4 := ⟨fd_tbi 980 (by decide +kernel) rfl, fd_tbi 981 (by decide +kernel) rfl, fd_tbi 113 (by decide +kernel) rfl, fd_tbi 982 (by decide +kernel) rfl, by decide, rfl, by decide, by decide, by decide +kernel⟩
theorem ml_X11_236 : Cond.methodLink RX11 236 yX6_layWays ∈ fd_TB := fd_tbi 979 (by decide +kernel) rfl
theorem yv_X6_nightsTo : fd_Yv yX6_nightsTo cX6_nightsTo 6 (some .int) RX6 2 := ⟨fd_tbi 987 (by decide +kernel) rfl, fd_tbi 988 (by decide +kernel) rfl, fd_tbi 113 (by decide +kernel) rfl, fd_tbi 989 (by decide +kernel) rfl, by decide, rfl, by decide, by decide, by decide +kernel⟩
theorem ml_X11_240 : Cond.methodLink RX11 240 yX6_nightsTo ∈ fd_TB := fd_tbi 986 (by decide +kernel) rfl
theorem yv_X6_tellPath : fd_Yv yX6_tellPath cX6_tellPath 4 none RX6 2 := ⟨fd_tbi 1003 (by decide +kernel) rfl, fd_tbi 1004 (by decide +kernel) rfl, fd_tbi 113 (by decide +kernel) rfl, fd_tbi 1005 (by decide +kernel) rfl, by decide, rfl, by decide, by decide, by decide +kernel⟩
theorem ml_X11_243 : Cond.methodLink RX11 243 yX6_tellPath ∈ fd_TB := fd_tbi 1002 (by decide +kernel) rfl
theorem fl_X6_54 : fd_Fl RX6 54 6 0 := ⟨RX6, TX6, 13, rfl, by decide, inX6, Or.inl (fd_tbi 397 (by decide +kernel) rfl)⟩
theorem fl_X6_43 : fd_Fl RX6 43 3 0 := ⟨RX3, TX3, 10, rfl, by decide, inX3, Or.inr ⟨RX11, fd_nwi 77 (by decide +kernel) rfl⟩⟩
theorem ml_X6_48 : Cond.methodLink RX6 48 Lib.Math.min.name ∈ fd_TB := fd_tbi 983 (by decide +kernel) rfl
theorem fp_X6_0 : fd_Fp 6 0 .int := ⟨RX6, TX6, 13, tyX6, rfl, tyX6_ok, nmX6, rfl, rfl⟩
theorem ml_X6_55 : Cond.methodLink RX6 55 yX8_walk ∈ fd_TB := fd_tbi 984 (by decide +kernel) rfl
theorem fl_X6_13 : fd_Fl RX6 13 6 4 := ⟨RX6, TX6, 13, rfl, by decide, inX6, Or.inl (fd_tbi 401 (by decide +kernel) rfl)⟩
theorem ml_X6_61 : Cond.methodLink RX6 61 yX3_near ∈ fd_TB := fd_tbi 985 (by decide +kernel) rfl
theorem yv_X6_nearOfAll : fd_Yv yX6_nearOfAll cX6_nearOfAll 5 (some .int) RX6 2 := ⟨fd_tbi 992 (by decide +kernel) rfl, fd_tbi 28 (by decide +kernel) rfl, fd_tbi 113 (by decide +kernel) rfl, fd_tbi 993 (by decide +kernel) rfl, by decide, rfl, by decide, by decide, by decide +kernel⟩
theorem ml_X6_106 : Cond.methodLink RX6 106 yX6_nearOfAll ∈ fd_TB := fd_tbi 990 (by decide +kernel) rfl
theorem yv_X6_traceTo : fd_Yv yX6_traceTo cX6_traceTo 7 none RX6 3 := ⟨fd_tbi 996 (by decide +kernel) rfl, fd_tbi 29 (by decide +kernel) rfl, fd_tbi 113 (by decide +kernel) rfl, fd_tbi 997 (by decide +kernel) rfl, by decide, rfl, by decide, by decide, by decide +kernel⟩
theorem ml_X6_143 : Cond.methodLink RX6 143 yX6_traceTo ∈ fd_TB := fd_tbi 994 (by decide +kernel) rfl
theorem fl_X6_22 : fd_Fl RX6 22 6 7 := ⟨RX6, TX6, 13, rfl, by decide, inX6, Or.inl (fd_tbi 404 (by decide +kernel) rfl)⟩
theorem yv_X6_leastOf : fd_Yv yX6_leastOf cX6_leastOf 3 (some .int) RX6 1 := ⟨fd_tbi 1000 (by decide +kernel) rfl, fd_tbi 30 (by decide +kernel) rfl, fd_tbi 113 (by decide +kernel) rfl, fd_tbi 1001 (by decide +kernel) rfl, by decide, rfl, by decide, by decide, by decide +kernel⟩
theorem ml_X6_146 : Cond.methodLink RX6 146 yX6_leastOf ∈ fd_TB := fd_tbi 998 (by decide +kernel) rfl
theorem fl_X6_33 : fd_Fl RX6 33 6 10 := ⟨RX6, TX6, 13, rfl, by decide, inX6, Or.inl (fd_tbi 407 (by decide +kernel) rfl)⟩
theorem ml_X6_137 : Cond.methodLink RX6 137 yX4_add ∈ fd_TB := fd_tbi 1006 (by decide +kernel) rfl
theorem yv_X11_canPlan : fd_Yv yX11_canPlan cX11_canPlan 3 (some .boolean) RX11 2 := ⟨fd_tbi 1013 (by decide +kernel) rfl, fd_tbi 31 (by decide +kernel) rfl, fd_tbi 103 (by decide +kernel) rfl, fd_tbi 1014 (by decide +kernel) rfl, by decide, rfl, by decide, by decide, by decide +kernel⟩
theorem ml_X11_247 : Cond.methodLink RX11 247 yX11_canPlan ∈ fd_TB := fd_tbi 1011 (by decide +kernel) rfl
theorem yv_X11_planRound : fd_Yv yX11_planRound cX11_planRound 2 none RX11 1 := ⟨fd_tbi 1017 (by decide +kernel) rfl, fd_tbi 32 (by decide +kernel) rfl, fd_tbi 103 (by decide +kernel) rfl, fd_tbi 1018 (by decide +kernel) rfl, by decide, rfl, by decide, by decide, by decide +kernel⟩
theorem ml_X11_251 : Cond.methodLink RX11 251 yX11_planRound ∈ fd_TB := fd_tbi 1015 (by decide +kernel) rfl
theorem yv_X6_gain : fd_Yv yX6_gain cX6_gain 1 (some .int) RX6 0 := ⟨fd_tbi 1076 (by decide +kernel) rfl, fd_tbi 1077 (by decide +kernel) rfl, fd_tbi 113 (by decide +kernel) rfl, fd_tbi 1078 (by decide +kernel) rfl, by decide, rfl, by decide, by decide, by decide +kernel⟩
theorem ml_X11_255 : Cond.methodLink RX11 255 yX6_gain ∈ fd_TB := fd_tbi 1075 (by decide +kernel) rfl
theorem yv_X11_layPlan : fd_Yv yX11_layPlan cX11_layPlan 2 none RX11 1 := ⟨fd_tbi 1021 (by decide +kernel) rfl, fd_tbi 33 (by decide +kernel) rfl, fd_tbi 103 (by decide +kernel) rfl, fd_tbi 1022 (by decide +kernel) rfl, by decide, rfl, by decide, by decide, by decide +kernel⟩
theorem ml_X11_267 : Cond.methodLink RX11 267 yX11_layPlan ∈ fd_TB := fd_tbi 1019 (by decide +kernel) rfl
theorem yv_X6_weighCount : fd_Yv yX6_weighCount cX6_weighCount 2 none RX6 0 := ⟨fd_tbi 1030 (by decide +kernel) rfl, fd_tbi 1031 (by decide +kernel) rfl, fd_tbi 113 (by decide +kernel) rfl, fd_tbi 1032 (by decide +kernel) rfl, by decide, rfl, by decide, by decide, by decide +kernel⟩
theorem ml_X11_413 : Cond.methodLink RX11 413 yX6_weighCount ∈ fd_TB := fd_tbi 1029 (by decide +kernel) rfl
theorem fl_X11_270 : fd_Fl RX11 270 10 6 := ⟨RX10, TX10, 10, rfl, by decide, inX10, Or.inr ⟨RX11, fd_nwi 221 (by decide +kernel) rfl⟩⟩
theorem yv_X6_spread : fd_Yv yX6_spread cX6_spread 6 none RX6 3 := ⟨fd_tbi 1035 (by decide +kernel) rfl, fd_tbi 1036 (by decide +kernel) rfl, fd_tbi 113 (by decide +kernel) rfl, fd_tbi 1037 (by decide +kernel) rfl, by decide, rfl, by decide, by decide, by decide +kernel⟩
theorem ml_X11_273 : Cond.methodLink RX11 273 yX6_spread ∈ fd_TB := fd_tbi 1034 (by decide +kernel) rfl
theorem yv_X6_trace : fd_Yv yX6_trace cX6_trace 5 none RX6 1 := ⟨fd_tbi 1047 (by decide +kernel) rfl, fd_tbi 1048 (by decide +kernel) rfl, fd_tbi 113 (by decide +kernel) rfl, fd_tbi 1049 (by decide +kernel) rfl, by decide, rfl, by decide, by decide, by decide +kernel⟩
theorem ml_X11_283 : Cond.methodLink RX11 283 yX6_trace ∈ fd_TB := fd_tbi 1046 (by decide +kernel) rfl
theorem yv_X6_layFeasts : fd_Yv yX6_layFeasts cX6_layFeasts 9 none RX6 4 := ⟨fd_tbi 1024 (by decide +kernel) rfl, fd_tbi 1025 (by decide +kernel) rfl, fd_tbi 113 (by decide +kernel) rfl, fd_tbi 1026 (by decide +kernel) rfl, by decide, rfl, by decide, by decide, by decide +kernel⟩
theorem ml_X11_409 : Cond.methodLink RX11 409 yX6_layFeasts ∈ fd_TB := fd_tbi 1023 (by decide +kernel) rfl
theorem fl_X6_68 : fd_Fl RX6 68 6 1 := ⟨RX6, TX6, 13, rfl, by decide, inX6, Or.inl (fd_tbi 398 (by decide +kernel) rfl)⟩
theorem fl_X6_63 : fd_Fl RX6 63 1 0 := ⟨RX1, TX1, 5, rfl, by decide, inX1, Or.inr ⟨RX11, fd_nwi 138 (by decide +kernel) rfl⟩⟩
theorem fp_X6_1 : fd_Fp 6 1 .int := ⟨RX6, TX6, 13, tyX6, rfl, tyX6_ok, nmX6, rfl, rfl⟩
theorem fl_X6_71 : fd_Fl RX6 71 10 0 := ⟨RX10, TX10, 10, rfl, by decide, inX10, Or.inr ⟨RX11, fd_nwi 208 (by decide +kernel) rfl⟩⟩
theorem ml_X6_76 : Cond.methodLink RX6 76 yX8_isLent ∈ fd_TB := fd_tbi 1027 (by decide +kernel) rfl
theorem fl_X6_16 : fd_Fl RX6 16 6 5 := ⟨RX6, TX6, 13, rfl, by decide, inX6, Or.inl (fd_tbi 402 (by decide +kernel) rfl)⟩
theorem ml_X6_80 : Cond.methodLink RX6 80 yX10_openAt ∈ fd_TB := fd_tbi 1028 (by decide +kernel) rfl
theorem fl_X6_25 : fd_Fl RX6 25 6 8 := ⟨RX6, TX6, 13, rfl, by decide, inX6, Or.inl (fd_tbi 405 (by decide +kernel) rfl)⟩
theorem ml_X6_84 : Cond.methodLink RX6 84 yJ6_bitCount_0f7a4 ∈ fd_TB := fd_tbi 1033 (by decide +kernel) rfl
theorem fl_X6_92 : fd_Fl RX6 92 6 2 := ⟨RX6, TX6, 13, rfl, by decide, inX6, Or.inl (fd_tbi 399 (by decide +kernel) rfl)⟩
theorem fp_X6_2 : fd_Fp 6 2 .int := ⟨RX6, TX6, 13, tyX6, rfl, tyX6_ok, nmX6, rfl, rfl⟩
theorem fl_X6_95 : fd_Fl RX6 95 6 3 := ⟨RX6, TX6, 13, rfl, by decide, inX6, Or.inl (fd_tbi 400 (by decide +kernel) rfl)⟩
theorem fp_X6_3 : fd_Fp 6 3 .int := ⟨RX6, TX6, 13, tyX6, rfl, tyX6_ok, nmX6, rfl, rfl⟩
theorem yv_X6_clearSets : fd_Yv yX6_clearSets cX6_clearSets 3 none RX6 1 := ⟨fd_tbi 1040 (by decide +kernel) rfl, fd_tbi 34 (by decide +kernel) rfl, fd_tbi 113 (by decide +kernel) rfl, fd_tbi 1041 (by decide +kernel) rfl, by decide, rfl, by decide, by decide, by decide +kernel⟩
theorem ml_X6_98 : Cond.methodLink RX6 98 yX6_clearSets ∈ fd_TB := fd_tbi 1038 (by decide +kernel) rfl
theorem fl_X6_19 : fd_Fl RX6 19 6 6 := ⟨RX6, TX6, 13, rfl, by decide, inX6, Or.inl (fd_tbi 403 (by decide +kernel) rfl)⟩
theorem yv_X6_spreadSet : fd_Yv yX6_spreadSet cX6_spreadSet 6 none RX6 2 := ⟨fd_tbi 1044 (by decide +kernel) rfl, fd_tbi 35 (by decide +kernel) rfl, fd_tbi 113 (by decide +kernel) rfl, fd_tbi 1045 (by decide +kernel) rfl, by decide, rfl, by decide, by decide, by decide +kernel⟩
theorem ml_X6_102 : Cond.methodLink RX6 102 yX6_spreadSet ∈ fd_TB := fd_tbi 1042 (by decide +kernel) rfl
theorem yv_X6_bestValue : fd_Yv yX6_bestValue cX6_bestValue 4 (some .int) RX6 1 := ⟨fd_tbi 1052 (by decide +kernel) rfl, fd_tbi 36 (by decide +kernel) rfl, fd_tbi 113 (by decide +kernel) rfl, fd_tbi 1053 (by decide +kernel) rfl, by decide, rfl, by decide, by decide, by decide +kernel⟩
theorem ml_X6_116 : Cond.methodLink RX6 116 yX6_bestValue ∈ fd_TB := fd_tbi 1050 (by decide +kernel) rfl
theorem fl_X6_39 : fd_Fl RX6 39 6 12 := ⟨RX6, TX6, 13, rfl, by decide, inX6, Or.inl (fd_tbi 409 (by decide +kernel) rfl)⟩
theorem yv_X6_startValue : fd_Yv yX6_startValue cX6_startValue 1 (some .int) RX6 0 := ⟨fd_tbi 1057 (by decide +kernel) rfl, fd_tbi 37 (by decide +kernel) rfl, fd_tbi 113 (by decide +kernel) rfl, fd_tbi 1058 (by decide +kernel) rfl, by decide, rfl, by decide, by decide, by decide +kernel⟩
theorem ml_X6_119 : Cond.methodLink RX6 119 yX6_startValue ∈ fd_TB := fd_tbi 1055 (by decide +kernel) rfl
theorem fp_X6_12 : fd_Fp 6 12 .int := ⟨RX6, TX6, 13, tyX6, rfl, tyX6_ok, nmX6, rfl, rfl⟩
theorem yv_X6_comeFrom : fd_Yv yX6_comeFrom cX6_comeFrom 5 (some .int) RX6 2 := ⟨fd_tbi 1061 (by decide +kernel) rfl, fd_tbi 38 (by decide +kernel) rfl, fd_tbi 113 (by decide +kernel) rfl, fd_tbi 1062 (by decide +kernel) rfl, by decide, rfl, by decide, by decide, by decide +kernel⟩
theorem ml_X6_123 : Cond.methodLink RX6 123 yX6_comeFrom ∈ fd_TB := fd_tbi 1059 (by decide +kernel) rfl
theorem yv_X6_follow : fd_Yv yX6_follow cX6_follow 5 none RX6 1 := ⟨fd_tbi 1069 (by decide +kernel) rfl, fd_tbi 40 (by decide +kernel) rfl, fd_tbi 113 (by decide +kernel) rfl, fd_tbi 1070 (by decide +kernel) rfl, by decide, rfl, by decide, by decide, by decide +kernel⟩
theorem ml_X6_126 : Cond.methodLink RX6 126 yX6_follow ∈ fd_TB := fd_tbi 1067 (by decide +kernel) rfl
theorem ml_X6_109 : Cond.methodLink RX6 109 Lib.Math.max.name ∈ fd_TB := fd_tbi 1054 (by decide +kernel) rfl
theorem yv_X6_isGood : fd_Yv yX6_isGood cX6_isGood 5 (some .boolean) RX6 3 := ⟨fd_tbi 1065 (by decide +kernel) rfl, fd_tbi 39 (by decide +kernel) rfl, fd_tbi 113 (by decide +kernel) rfl, fd_tbi 1066 (by decide +kernel) rfl, by decide, rfl, by decide, by decide, by decide +kernel⟩
theorem ml_X6_129 : Cond.methodLink RX6 129 yX6_isGood ∈ fd_TB := fd_tbi 1063 (by decide +kernel) rfl
theorem fl_X6_36 : fd_Fl RX6 36 6 11 := ⟨RX6, TX6, 13, rfl, by decide, inX6, Or.inl (fd_tbi 408 (by decide +kernel) rfl)⟩
theorem yv_X6_leastGood : fd_Yv yX6_leastGood cX6_leastGood 6 (some .int) RX6 3 := ⟨fd_tbi 1073 (by decide +kernel) rfl, fd_tbi 41 (by decide +kernel) rfl, fd_tbi 113 (by decide +kernel) rfl, fd_tbi 1074 (by decide +kernel) rfl, by decide, rfl, by decide, by decide, by decide +kernel⟩
theorem ml_X6_133 : Cond.methodLink RX6 133 yX6_leastGood ∈ fd_TB := fd_tbi 1071 (by decide +kernel) rfl
theorem yv_X11_planRichest : fd_Yv yX11_planRichest cX11_planRichest 2 none RX11 1 := ⟨fd_tbi 1085 (by decide +kernel) rfl, fd_tbi 42 (by decide +kernel) rfl, fd_tbi 103 (by decide +kernel) rfl, fd_tbi 1086 (by decide +kernel) rfl, by decide, rfl, by decide, by decide, by decide +kernel⟩
theorem ml_X11_258 : Cond.methodLink RX11 258 yX11_planRichest ∈ fd_TB := fd_tbi 1083 (by decide +kernel) rfl
theorem yv_X6_weighBids : fd_Yv yX6_weighBids cX6_weighBids 7 none RX6 2 := ⟨fd_tbi 1088 (by decide +kernel) rfl, fd_tbi 1089 (by decide +kernel) rfl, fd_tbi 113 (by decide +kernel) rfl, fd_tbi 1090 (by decide +kernel) rfl, by decide, rfl, by decide, by decide, by decide +kernel⟩
theorem ml_X11_297 : Cond.methodLink RX11 297 yX6_weighBids ∈ fd_TB := fd_tbi 1087 (by decide +kernel) rfl
theorem ml_X6_89 : Cond.methodLink RX6 89 yX1_bidFor ∈ fd_TB := fd_tbi 1091 (by decide +kernel) rfl
theorem yv_X1_areBits : fd_Yv yX1_areBits cX1_areBits 2 (some .boolean) RX1 1 := ⟨fd_tbi 1097 (by decide +kernel) rfl, fd_tbi 1098 (by decide +kernel) rfl, fd_tbi 108 (by decide +kernel) rfl, fd_tbi 1099 (by decide +kernel) rfl, by decide, rfl, by decide, by decide, by decide +kernel⟩
theorem ml_X11_264 : Cond.methodLink RX11 264 yX1_areBits ∈ fd_TB := fd_tbi 1096 (by decide +kernel) rfl
theorem yv_X6_nightsForAll : fd_Yv yX6_nightsForAll cX6_nightsForAll 4 (some .int) RX6 1 := ⟨fd_tbi 1101 (by decide +kernel) rfl, fd_tbi 1102 (by decide +kernel) rfl, fd_tbi 113 (by decide +kernel) rfl, fd_tbi 1103 (by decide +kernel) rfl, by decide, rfl, by decide, by decide, by decide +kernel⟩
theorem ml_X11_277 : Cond.methodLink RX11 277 yX6_nightsForAll ∈ fd_TB := fd_tbi 1100 (by decide +kernel) rfl
theorem yv_X6_weighWhole : fd_Yv yX6_weighWhole cX6_weighWhole 3 none RX6 1 := ⟨fd_tbi 1105 (by decide +kernel) rfl, fd_tbi 1106 (by decide +kernel) rfl, fd_tbi 113 (by decide +kernel) rfl, fd_tbi 1107 (by decide +kernel) rfl, by decide, rfl, by decide, by decide, by decide +kernel⟩
theorem ml_X11_280 : Cond.methodLink RX11 280 yX6_weighWhole ∈ fd_TB := fd_tbi 1104 (by decide +kernel) rfl
theorem yv_X6_findPlayable : fd_Yv yX6_findPlayable cX6_findPlayable 5 none RX6 1 := ⟨fd_tbi 1113 (by decide +kernel) rfl, fd_tbi 1114 (by decide +kernel) rfl, fd_tbi 113 (by decide +kernel) rfl, fd_tbi 1115 (by decide +kernel) rfl, by decide, rfl, by decide, by decide, by decide +kernel⟩
theorem ml_X11_286 : Cond.methodLink RX11 286 yX6_findPlayable ∈ fd_TB := fd_tbi 1112 (by decide +kernel) rfl
theorem yv_X6_leastUnplayable : fd_Yv yX6_leastUnplayable cX6_leastUnplayable 5 (some .int) RX6 1 := ⟨fd_tbi 1117 (by decide +kernel) rfl, fd_tbi 1118 (by decide +kernel) rfl, fd_tbi 113 (by decide +kernel) rfl, fd_tbi 1119 (by decide +kernel) rfl, by decide, rfl, by decide, by decide, by decide +kernel⟩
theorem ml_X11_289 : Cond.methodLink RX11 289 yX6_leastUnplayable ∈ fd_TB := fd_tbi 1116 (by decide +kernel) rfl
theorem ml_X11_292 : Cond.methodLink RX11 292 yJ6_bitCount_0f7a4 ∈ fd_TB := fd_tbi 1120 (by decide +kernel) rfl
theorem fl_X6_29 : fd_Fl RX6 29 6 9 := ⟨RX6, TX6, 13, rfl, by decide, inX6, Or.inl (fd_tbi 406 (by decide +kernel) rfl)⟩
theorem yv_X6_bestFrom : fd_Yv yX6_bestFrom cX6_bestFrom 4 (some .int) RX6 3 := ⟨fd_tbi 1126 (by decide +kernel) rfl, fd_tbi 1127 (by decide +kernel) rfl, fd_tbi 113 (by decide +kernel) rfl, fd_tbi 1128 (by decide +kernel) rfl, by decide, rfl, by decide, by decide, by decide +kernel⟩
theorem ml_X11_301 : Cond.methodLink RX11 301 yX6_bestFrom ∈ fd_TB := fd_tbi 1125 (by decide +kernel) rfl
theorem ml_X6_112 : Cond.methodLink RX6 112 yX6_spread ∈ fd_TB := fd_tbi 1129 (by decide +kernel) rfl
theorem fl_X11_305 : fd_Fl RX11 305 1 0 := ⟨RX1, TX1, 5, rfl, by decide, inX1, Or.inr ⟨RX11, fd_nwi 140 (by decide +kernel) rfl⟩⟩
theorem yv_X11_gainOfOneNight : fd_Yv yX11_gainOfOneNight cX11_gainOfOneNight 6 (some .int) RX11 2 := ⟨fd_tbi 1136 (by decide +kernel) rfl, fd_tbi 43 (by decide +kernel) rfl, fd_tbi 103 (by decide +kernel) rfl, fd_tbi 1137 (by decide +kernel) rfl, by decide, rfl, by decide, by decide, by decide +kernel⟩
theorem ml_X11_308 : Cond.methodLink RX11 308 yX11_gainOfOneNight ∈ fd_TB := fd_tbi 1134 (by decide +kernel) rfl
theorem ml_X11_369 : Cond.methodLink RX11 369 yX8_isLent ∈ fd_TB := fd_tbi 1138 (by decide +kernel) rfl
theorem fl_X11_142 : fd_Fl RX11 142 1 2 := ⟨RX1, TX1, 5, rfl, by decide, inX1, Or.inr ⟨RX11, fd_nwi 144 (by decide +kernel) rfl⟩⟩
theorem yv_X6_toggleFeast : fd_Yv yX6_toggleFeast cX6_toggleFeast 4 none RX6 3 := ⟨fd_tbi 1140 (by decide +kernel) rfl, fd_tbi 1141 (by decide +kernel) rfl, fd_tbi 113 (by decide +kernel) rfl, fd_tbi 1142 (by decide +kernel) rfl, by decide, rfl, by decide, by decide, by decide +kernel⟩
theorem ml_X11_416 : Cond.methodLink RX11 416 yX6_toggleFeast ∈ fd_TB := fd_tbi 1139 (by decide +kernel) rfl
theorem yv_X6_playedIn : fd_Yv yX6_playedIn cX6_playedIn 2 (some .int) RX6 1 := ⟨fd_tbi 1148 (by decide +kernel) rfl, fd_tbi 1149 (by decide +kernel) rfl, fd_tbi 113 (by decide +kernel) rfl, fd_tbi 1150 (by decide +kernel) rfl, by decide, rfl, by decide, by decide, by decide +kernel⟩
theorem ml_X11_311 : Cond.methodLink RX11 311 yX6_playedIn ∈ fd_TB := fd_tbi 1147 (by decide +kernel) rfl
theorem ml_X11_314 : Cond.methodLink RX11 314 yX1_tunesOf ∈ fd_TB := fd_tbi 1151 (by decide +kernel) rfl
theorem yv_X6_playedBy : fd_Yv yX6_playedBy cX6_playedBy 2 (some .int) RX6 1 := ⟨fd_tbi 1157 (by decide +kernel) rfl, fd_tbi 1158 (by decide +kernel) rfl, fd_tbi 113 (by decide +kernel) rfl, fd_tbi 1159 (by decide +kernel) rfl, by decide, rfl, by decide, by decide, by decide +kernel⟩
theorem ml_X11_317 : Cond.methodLink RX11 317 yX6_playedBy ∈ fd_TB := fd_tbi 1156 (by decide +kernel) rfl
theorem fl_X11_85 : fd_Fl RX11 85 11 11 := ⟨RX11, TX11, 13, rfl, by decide, inX11, Or.inl (fd_tbi 484 (by decide +kernel) rfl)⟩
theorem yv_X9_isFull : fd_Yv yX9_isFull cX9_isFull 1 (some .boolean) RX9 0 := ⟨fd_tbi 1165 (by decide +kernel) rfl, fd_tbi 1166 (by decide +kernel) rfl, fd_tbi 114 (by decide +kernel) rfl, fd_tbi 1167 (by decide +kernel) rfl, by decide, rfl, by decide, by decide, by decide +kernel⟩
theorem ml_X11_320 : Cond.methodLink RX11 320 yX9_isFull ∈ fd_TB := fd_tbi 1164 (by decide +kernel) rfl
theorem yv_X9_read : fd_Yv yX9_read cX9_read 5 (some .int) RX9 1 := ⟨fd_tbi 1169 (by decide +kernel) rfl, fd_tbi 1170 (by decide +kernel) rfl, fd_tbi 114 (by decide +kernel) rfl, fd_tbi 1171 (by decide +kernel) rfl, by decide, rfl, by decide, by decide, by decide +kernel⟩
theorem ml_X11_323 : Cond.methodLink RX11 323 yX9_read ∈ fd_TB := fd_tbi 1168 (by decide +kernel) rfl
theorem yv_X9_keepDraft : fd_Yv yX9_keepDraft cX9_keepDraft 3 (some .int) RX9 1 := ⟨fd_tbi 1177 (by decide +kernel) rfl, fd_tbi 1178 (by decide +kernel) rfl, fd_tbi 114 (by decide +kernel) rfl, fd_tbi 1179 (by decide +kernel) rfl, by decide, rfl, by decide, by decide, by decide +kernel⟩
theorem ml_X11_324 : Cond.methodLink RX11 324 yX9_keepDraft ∈ fd_TB := fd_tbi 1176 (by decide +kernel) rfl
theorem fl_X9_39 : fd_Fl RX9 39 9 0 := ⟨RX9, TX9, 9, rfl, by decide, inX9, Or.inl (fd_tbi 444 (by decide +kernel) rfl)⟩
theorem ml_X9_43 : Cond.methodLink RX9 43 yX7_begin ∈ fd_TB := fd_tbi 1172 (by decide +kernel) rfl
theorem ml_X9_49 : Cond.methodLink RX9 49 yX7_takeLetter ∈ fd_TB := fd_tbi 1173 (by decide +kernel) rfl
theorem fl_X9_11 : fd_Fl RX9 11 9 1 := ⟨RX9, TX9, 9, rfl, by decide, inX9, Or.inl (fd_tbi 446 (by decide +kernel) rfl)⟩
theorem ml_X9_53 : Cond.methodLink RX9 53 yX7_isWhole ∈ fd_TB := fd_tbi 1174 (by decide +kernel) rfl
theorem ml_X9_57 : Cond.methodLink RX9 57 yX7_refusal ∈ fd_TB := fd_tbi 1175 (by decide +kernel) rfl
theorem fl_X9_16 : fd_Fl RX9 16 9 2 := ⟨RX9, TX9, 9, rfl, by decide, inX9, Or.inl (fd_tbi 447 (by decide +kernel) rfl)⟩
theorem fl_X9_20 : fd_Fl RX9 20 9 3 := ⟨RX9, TX9, 9, rfl, by decide, inX9, Or.inl (fd_tbi 448 (by decide +kernel) rfl)⟩
theorem fp_X9_0 : fd_Fp 9 0 .int := ⟨RX9, TX9, 9, tyX9, rfl, tyX9_ok, nmX9, rfl, rfl⟩
theorem yv_X9_forget : fd_Yv yX9_forget cX9_forget 2 (some .int) RX9 0 := ⟨fd_tbi 1185 (by decide +kernel) rfl, fd_tbi 1186 (by decide +kernel) rfl, fd_tbi 114 (by decide +kernel) rfl, fd_tbi 1187 (by decide +kernel) rfl, by decide, rfl, by decide, by decide, by decide +kernel⟩
theorem ml_X11_327 : Cond.methodLink RX11 327 yX9_forget ∈ fd_TB := fd_tbi 1184 (by decide +kernel) rfl
theorem yv_X9_has : fd_Yv yX9_has cX9_has 2 (some .boolean) RX9 1 := ⟨fd_tbi 1193 (by decide +kernel) rfl, fd_tbi 1194 (by decide +kernel) rfl, fd_tbi 114 (by decide +kernel) rfl, fd_tbi 1195 (by decide +kernel) rfl, by decide, rfl, by decide, by decide, by decide +kernel⟩
theorem ml_X11_330 : Cond.methodLink RX11 330 yX9_has ∈ fd_TB := fd_tbi 1192 (by decide +kernel) rfl
theorem yv_X9_likePlaces : fd_Yv yX9_likePlaces cX9_likePlaces 6 (some .int) RX9 2 := ⟨fd_tbi 1197 (by decide +kernel) rfl, fd_tbi 1198 (by decide +kernel) rfl, fd_tbi 114 (by decide +kernel) rfl, fd_tbi 1199 (by decide +kernel) rfl, by decide, rfl, by decide, by decide, by decide +kernel⟩
theorem ml_X11_331 : Cond.methodLink RX11 331 yX9_likePlaces ∈ fd_TB := fd_tbi 1196 (by decide +kernel) rfl
theorem yv_X9_changes : fd_Yv yX9_changes cX9_changes 9 (some .int) RX9 2 := ⟨fd_tbi 1206 (by decide +kernel) rfl, fd_tbi 1207 (by decide +kernel) rfl, fd_tbi 114 (by decide +kernel) rfl, fd_tbi 1208 (by decide +kernel) rfl, by decide, rfl, by decide, by decide, by decide +kernel⟩
theorem ml_X11_334 : Cond.methodLink RX11 334 yX9_changes ∈ fd_TB := fd_tbi 1205 (by decide +kernel) rfl
theorem yv_X9_isThere : fd_Yv yX9_isThere cX9_isThere 2 (some .boolean) RX9 1 := ⟨fd_tbi 1202 (by decide +kernel) rfl, fd_tbi 44 (by decide +kernel) rfl, fd_tbi 114 (by decide +kernel) rfl, fd_tbi 1203 (by decide +kernel) rfl, by decide, rfl, by decide, by decide, by decide +kernel⟩
theorem ml_X9_61 : Cond.methodLink RX9 61 yX9_isThere ∈ fd_TB := fd_tbi 1200 (by decide +kernel) rfl
theorem ml_X9_65 : Cond.methodLink RX9 65 Lib.Math.min.name ∈ fd_TB := fd_tbi 1204 (by decide +kernel) rfl
theorem fl_X9_23 : fd_Fl RX9 23 9 4 := ⟨RX9, TX9, 9, rfl, by decide, inX9, Or.inl (fd_tbi 449 (by decide +kernel) rfl)⟩
theorem fl_X9_26 : fd_Fl RX9 26 9 5 := ⟨RX9, TX9, 9, rfl, by decide, inX9, Or.inl (fd_tbi 450 (by decide +kernel) rfl)⟩
theorem fl_X11_337 : fd_Fl RX11 337 9 0 := ⟨RX9, TX9, 9, rfl, by decide, inX9, Or.inr ⟨RX11, fd_nwi 343 (by decide +kernel) rfl⟩⟩
theorem yv_X9_tellOrigins : fd_Yv yX9_tellOrigins cX9_tellOrigins 8 (some .int) RX9 1 := ⟨fd_tbi 1214 (by decide +kernel) rfl, fd_tbi 1215 (by decide +kernel) rfl, fd_tbi 114 (by decide +kernel) rfl, fd_tbi 1216 (by decide +kernel) rfl, by decide, rfl, by decide, by decide, by decide +kernel⟩
theorem ml_X11_338 : Cond.methodLink RX11 338 yX9_tellOrigins ∈ fd_TB := fd_tbi 1213 (by decide +kernel) rfl
theorem ml_X9_70 : Cond.methodLink RX9 70 yX9_changes ∈ fd_TB := fd_tbi 1217 (by decide +kernel) rfl
theorem ml_X9_73 : Cond.methodLink RX9 73 yX4_add ∈ fd_TB := fd_tbi 1218 (by decide +kernel) rfl
theorem yv_X9_tellTree : fd_Yv yX9_tellTree cX9_tellTree 5 (some .int) RX9 1 := ⟨fd_tbi 1224 (by decide +kernel) rfl, fd_tbi 1225 (by decide +kernel) rfl, fd_tbi 114 (by decide +kernel) rfl, fd_tbi 1226 (by decide +kernel) rfl, by decide, rfl, by decide, by decide, by decide +kernel⟩
theorem ml_X11_342 : Cond.methodLink RX11 342 yX9_tellTree ∈ fd_TB := fd_tbi 1223 (by decide +kernel) rfl
theorem yv_X9_measureAll : fd_Yv yX9_measureAll cX9_measureAll 3 none RX9 0 := ⟨fd_tbi 1229 (by decide +kernel) rfl, fd_tbi 45 (by decide +kernel) rfl, fd_tbi 114 (by decide +kernel) rfl, fd_tbi 1230 (by decide +kernel) rfl, by decide, rfl, by decide, by decide, by decide +kernel⟩
theorem ml_X9_79 : Cond.methodLink RX9 79 yX9_measureAll ∈ fd_TB := fd_tbi 1227 (by decide +kernel) rfl
theorem fl_X9_29 : fd_Fl RX9 29 9 6 := ⟨RX9, TX9, 9, rfl, by decide, inX9, Or.inl (fd_tbi 451 (by decide +kernel) rfl)⟩
theorem fl_X9_33 : fd_Fl RX9 33 9 7 := ⟨RX9, TX9, 9, rfl, by decide, inX9, Or.inl (fd_tbi 452 (by decide +kernel) rfl)⟩
theorem yv_X9_joinNearest : fd_Yv yX9_joinNearest cX9_joinNearest 6 (some .int) RX9 0 := ⟨fd_tbi 1233 (by decide +kernel) rfl, fd_tbi 46 (by decide +kernel) rfl, fd_tbi 114 (by decide +kernel) rfl, fd_tbi 1234 (by decide +kernel) rfl, by decide, rfl, by decide, by decide, by decide +kernel⟩
theorem ml_X9_82 : Cond.methodLink RX9 82 yX9_joinNearest ∈ fd_TB := fd_tbi 1231 (by decide +kernel) rfl
theorem fl_X9_36 : fd_Fl RX9 36 9 8 := ⟨RX9, TX9, 9, rfl, by decide, inX9, Or.inl (fd_tbi 453 (by decide +kernel) rfl)⟩
theorem yv_X9_fewestFromDraft : fd_Yv yX9_fewestFromDraft cX9_fewestFromDraft 3 (some .int) RX9 0 := ⟨fd_tbi 1240 (by decide +kernel) rfl, fd_tbi 1241 (by decide +kernel) rfl, fd_tbi 114 (by decide +kernel) rfl, fd_tbi 1242 (by decide +kernel) rfl, by decide, rfl, by decide, by decide, by decide +kernel⟩
theorem ml_X11_345 : Cond.methodLink RX11 345 yX9_fewestFromDraft ∈ fd_TB := fd_tbi 1239 (by decide +kernel) rfl
theorem yv_X9_heardWithin : fd_Yv yX9_heardWithin cX9_heardWithin 4 (some .int) RX9 1 := ⟨fd_tbi 1244 (by decide +kernel) rfl, fd_tbi 1245 (by decide +kernel) rfl, fd_tbi 114 (by decide +kernel) rfl, fd_tbi 1246 (by decide +kernel) rfl, by decide, rfl, by decide, by decide, by decide +kernel⟩
theorem ml_X11_348 : Cond.methodLink RX11 348 yX9_heardWithin ∈ fd_TB := fd_tbi 1243 (by decide +kernel) rfl
theorem yv_X11_power : fd_Ys yX11_power cX11_power 5 (some .long) 2 := ⟨fd_tbi 1252 (by decide +kernel) rfl, fd_tbi 103 (by decide +kernel) rfl, fd_tbi 1253 (by decide +kernel) rfl, by decide, by decide, by decide, by decide +kernel⟩
theorem ml_X11_351 : Cond.methodLink RX11 351 yX11_power ∈ fd_TB := fd_tbi 1251 (by decide +kernel) rfl
theorem yv_X11_commonDivisor : fd_Ys yX11_commonDivisor cX11_commonDivisor 11 (some .long) 2 := ⟨fd_tbi 1255 (by decide +kernel) rfl, fd_tbi 103 (by decide +kernel) rfl, fd_tbi 1256 (by decide +kernel) rfl, by decide, by decide, by decide, by decide +kernel⟩
theorem ml_X11_355 : Cond.methodLink RX11 355 yX11_commonDivisor ∈ fd_TB := fd_tbi 1254 (by decide +kernel) rfl
theorem yv_X11_isNoFarther : fd_Yv yX11_isNoFarther cX11_isNoFarther 5 (some .boolean) RX11 2 := ⟨fd_tbi 1263 (by decide +kernel) rfl, fd_tbi 47 (by decide +kernel) rfl, fd_tbi 103 (by decide +kernel) rfl, fd_tbi 1264 (by decide +kernel) rfl, by decide, rfl, by decide, by decide, by decide +kernel⟩
theorem ml_X11_359 : Cond.methodLink RX11 359 yX11_isNoFarther ∈ fd_TB := fd_tbi 1261 (by decide +kernel) rfl
theorem yv_X11_areSettled : fd_Ys yX11_areSettled cX11_areSettled 7 (some .boolean) 4 := ⟨fd_tbi 1266 (by decide +kernel) rfl, fd_tbi 103 (by decide +kernel) rfl, fd_tbi 1267 (by decide +kernel) rfl, by decide, by decide, by decide, by decide +kernel⟩
theorem ml_X11_362 : Cond.methodLink RX11 362 yX11_areSettled ∈ fd_TB := fd_tbi 1265 (by decide +kernel) rfl
theorem yv_X11_share : fd_Ys yX11_share cX11_share 5 (some .int) 4 := ⟨fd_tbi 1269 (by decide +kernel) rfl, fd_tbi 103 (by decide +kernel) rfl, fd_tbi 1270 (by decide +kernel) rfl, by decide, by decide, by decide, by decide +kernel⟩
theorem ml_X11_419 : Cond.methodLink RX11 419 yX11_share ∈ fd_TB := fd_tbi 1268 (by decide +kernel) rfl
theorem ml_X11_366 : Cond.methodLink RX11 366 yX8_isMoonless ∈ fd_TB := fd_tbi 1275 (by decide +kernel) rfl
theorem cw_X11_372 : Cond.constant RX11 372 (1103515245 : Int32) ∈ fd_TB := fd_tbi 1280 (by decide +kernel) rfl
theorem yv_X5_keepUnder : fd_Yv yX5_keepUnder cX5_keepUnder 3 (some .boolean) RX5 2 := ⟨fd_tbi 1286 (by decide +kernel) rfl, fd_tbi 1287 (by decide +kernel) rfl, fd_tbi 111 (by decide +kernel) rfl, fd_tbi 1288 (by decide +kernel) rfl, by decide, rfl, by decide, by decide, by decide +kernel⟩
theorem ml_X11_377 : Cond.methodLink RX11 377 yX5_keepUnder ∈ fd_TB := fd_tbi 1285 (by decide +kernel) rfl
theorem fl_X5_17 : fd_Fl RX5 17 5 3 := ⟨RX5, TX5, 5, rfl, by decide, inX5, Or.inl (fd_tbi 364 (by decide +kernel) rfl)⟩
theorem yv_X5_bringBack : fd_Yv yX5_bringBack cX5_bringBack 3 (some .boolean) RX5 2 := ⟨fd_tbi 1294 (by decide +kernel) rfl, fd_tbi 1295 (by decide +kernel) rfl, fd_tbi 111 (by decide +kernel) rfl, fd_tbi 1296 (by decide +kernel) rfl, by decide, rfl, by decide, by decide, by decide +kernel⟩
theorem ml_X11_381 : Cond.methodLink RX11 381 yX5_bringBack ∈ fd_TB := fd_tbi 1293 (by decide +kernel) rfl
theorem fl_X11_384 : fd_Fl RX11 384 3 1 := ⟨RX3, TX3, 10, rfl, by decide, inX3, Or.inr ⟨RX11, fd_nwi 81 (by decide +kernel) rfl⟩⟩
theorem fl_X11_387 : fd_Fl RX11 387 10 3 := ⟨RX10, TX10, 10, rfl, by decide, inX10, Or.inr ⟨RX11, fd_nwi 215 (by decide +kernel) rfl⟩⟩
theorem fl_X11_390 : fd_Fl RX11 390 10 4 := ⟨RX10, TX10, 10, rfl, by decide, inX10, Or.inr ⟨RX11, fd_nwi 217 (by decide +kernel) rfl⟩⟩
theorem fl_X11_393 : fd_Fl RX11 393 10 5 := ⟨RX10, TX10, 10, rfl, by decide, inX10, Or.inr ⟨RX11, fd_nwi 219 (by decide +kernel) rfl⟩⟩
theorem yv_X10_overBits : fd_Yv yX10_overBits cX10_overBits 4 (some .int) RX10 1 := ⟨fd_tbi 1302 (by decide +kernel) rfl, fd_tbi 1303 (by decide +kernel) rfl, fd_tbi 110 (by decide +kernel) rfl, fd_tbi 1304 (by decide +kernel) rfl, by decide, rfl, by decide, by decide, by decide +kernel⟩
theorem ml_X11_396 : Cond.methodLink RX11 396 yX10_overBits ∈ fd_TB := fd_tbi 1301 (by decide +kernel) rfl
theorem fl_X11_399 : fd_Fl RX11 399 5 2 := ⟨RX5, TX5, 5, rfl, by decide, inX5, Or.inr ⟨RX11, fd_nwi 261 (by decide +kernel) rfl⟩⟩
theorem fl_X11_400 : fd_Fl RX11 400 4 1 := ⟨RX4, TX4, 2, rfl, by decide, inX4, Or.inr ⟨RX11, fd_nwi 61 (by decide +kernel) rfl⟩⟩
theorem yv_X10_isOver : fd_Yv yX10_isOver cX10_isOver 2 (some .boolean) RX10 1 := ⟨fd_tbi 1306 (by decide +kernel) rfl, fd_tbi 1307 (by decide +kernel) rfl, fd_tbi 110 (by decide +kernel) rfl, fd_tbi 1308 (by decide +kernel) rfl, by decide, rfl, by decide, by decide, by decide +kernel⟩
theorem ml_X10_44 : Cond.methodLink RX10 44 yX10_isOver ∈ fd_TB := fd_tbi 1305 (by decide +kernel) rfl
theorem yv_X4_has : fd_Yv yX4_has cX4_has 2 (some .boolean) RX4 1 := ⟨fd_tbi 1400 (by decide +kernel) rfl, fd_tbi 1401 (by decide +kernel) rfl, fd_tbi 105 (by decide +kernel) rfl, fd_tbi 1402 (by decide +kernel) rfl, by decide, rfl, by decide, by decide, by decide +kernel⟩
theorem ml_X4_19 : Cond.methodLink RX4 19 yX4_has ∈ fd_TB := fd_tbi 1407 (by decide +kernel) rfl
theorem cw_X4_23 : Cond.constantLong RX4 23 (-1 : Int64) ∈ fd_TB := fd_tbi 1408 (by decide +kernel) rfl
theorem fl_X12_123 : fd_Fl RX12 123 12 17 := ⟨RX12, TX12, 62, rfl, by decide, inX12, Or.inl (fd_tbi 1433 (by decide +kernel) rfl)⟩
theorem fp_X12_17 : fd_Fp 12 17 .int := ⟨RX12, TX12, 62, tyX12, rfl, tyX12_ok, nmX12, rfl, rfl⟩
theorem fl_X12_39 : fd_Fl RX12 39 12 15 := ⟨RX12, TX12, 62, rfl, by decide, inX12, Or.inl (fd_tbi 1431 (by decide +kernel) rfl)⟩
theorem fl_X12_126 : fd_Fl RX12 126 12 16 := ⟨RX12, TX12, 62, rfl, by decide, inX12, Or.inl (fd_tbi 1432 (by decide +kernel) rfl)⟩
theorem fp_X12_16 : fd_Fp 12 16 .int := ⟨RX12, TX12, 62, tyX12, rfl, tyX12_ok, nmX12, rfl, rfl⟩
theorem fl_X12_129 : fd_Fl RX12 129 12 1 := ⟨RX12, TX12, 62, rfl, by decide, inX12, Or.inl (fd_tbi 1417 (by decide +kernel) rfl)⟩
theorem yv_X12_in : fd_Ys yX12_in cX12_in 3 (some .boolean) 3 := ⟨fd_tbi 1616 (by decide +kernel) rfl, fd_tbi 115 (by decide +kernel) rfl, fd_tbi 1617 (by decide +kernel) rfl, by decide, by decide, by decide, by decide +kernel⟩
theorem ml_X12_132 : Cond.methodLink RX12 132 yX12_in ∈ fd_TB := fd_tbi 1615 (by decide +kernel) rfl
theorem fl_X12_136 : fd_Fl RX12 136 12 5 := ⟨RX12, TX12, 62, rfl, by decide, inX12, Or.inl (fd_tbi 1421 (by decide +kernel) rfl)⟩
theorem fl_X12_139 : fd_Fl RX12 139 12 14 := ⟨RX12, TX12, 62, rfl, by decide, inX12, Or.inl (fd_tbi 1430 (by decide +kernel) rfl)⟩
theorem fl_X12_35 : fd_Fl RX12 35 12 13 := ⟨RX12, TX12, 62, rfl, by decide, inX12, Or.inl (fd_tbi 1429 (by decide +kernel) rfl)⟩
theorem fp_X12_14 : fd_Fp 12 14 .int := ⟨RX12, TX12, 62, tyX12, rfl, tyX12_ok, nmX12, rfl, rfl⟩
theorem fl_X12_142 : fd_Fl RX12 142 12 18 := ⟨RX12, TX12, 62, rfl, by decide, inX12, Or.inl (fd_tbi 1434 (by decide +kernel) rfl)⟩
theorem fp_X12_18 : fd_Fp 12 18 (.array .byte) := ⟨RX12, TX12, 62, tyX12, rfl, tyX12_ok, nmX12, rfl, rfl⟩
theorem fl_X12_145 : fd_Fl RX12 145 12 19 := ⟨RX12, TX12, 62, rfl, by decide, inX12, Or.inl (fd_tbi 1435 (by decide +kernel) rfl)⟩
theorem fp_X12_19 : fd_Fp 12 19 .int := ⟨RX12, TX12, 62, tyX12, rfl, tyX12_ok, nmX12, rfl, rfl⟩
theorem fl_X12_148 : fd_Fl RX12 148 12 20 := ⟨RX12, TX12, 62, rfl, by decide, inX12, Or.inl (fd_tbi 1436 (by decide +kernel) rfl)⟩
theorem fp_X12_20 : fd_Fp 12 20 .int := ⟨RX12, TX12, 62, tyX12, rfl, tyX12_ok, nmX12, rfl, rfl⟩
theorem fl_X12_151 : fd_Fl RX12 151 12 21 := ⟨RX12, TX12, 62, rfl, by decide, inX12, Or.inl (fd_tbi 1437 (by decide +kernel) rfl)⟩
theorem fp_X12_21 : fd_Fp 12 21 .int := ⟨RX12, TX12, 62, tyX12, rfl, tyX12_ok, nmX12, rfl, rfl⟩
theorem fl_X12_154 : fd_Fl RX12 154 12 22 := ⟨RX12, TX12, 62, rfl, by decide, inX12, Or.inl (fd_tbi 1438 (by decide +kernel) rfl)⟩
theorem fp_X12_22 : fd_Fp 12 22 .int := ⟨RX12, TX12, 62, tyX12, rfl, tyX12_ok, nmX12, rfl, rfl⟩
theorem yv_X12_fine : fd_Yv yX12_fine cX12_fine 1 (some .boolean) RX12 0 := ⟨fd_tbi 1628 (by decide +kernel) rfl, fd_tbi 50 (by decide +kernel) rfl, fd_tbi 115 (by decide +kernel) rfl, fd_tbi 1629 (by decide +kernel) rfl, by decide, rfl, by decide, by decide, by decide +kernel⟩
theorem ml_X12_157 : Cond.methodLink RX12 157 yX12_fine ∈ fd_TB := fd_tbi 1626 (by decide +kernel) rfl
theorem yv_X12_here : fd_Yv yX12_here cX12_here 1 (some .int) RX12 0 := ⟨fd_tbi 1636 (by decide +kernel) rfl, fd_tbi 52 (by decide +kernel) rfl, fd_tbi 115 (by decide +kernel) rfl, fd_tbi 1637 (by decide +kernel) rfl, by decide, rfl, by decide, by decide, by decide +kernel⟩
theorem ml_X12_161 : Cond.methodLink RX12 161 yX12_here ∈ fd_TB := fd_tbi 1634 (by decide +kernel) rfl
theorem yv_X12_passes : fd_Yv yX12_passes cX12_passes 2 (some .boolean) RX12 1 := ⟨fd_tbi 1656 (by decide +kernel) rfl, fd_tbi 57 (by decide +kernel) rfl, fd_tbi 115 (by decide +kernel) rfl, fd_tbi 1657 (by decide +kernel) rfl, by decide, rfl, by decide, by decide, by decide +kernel⟩
theorem ml_X12_165 : Cond.methodLink RX12 165 yX12_passes ∈ fd_TB := fd_tbi 1654 (by decide +kernel) rfl
theorem yv_X12_fault : fd_Yv yX12_fault cX12_fault 2 none RX12 1 := ⟨fd_tbi 1644 (by decide +kernel) rfl, fd_tbi 54 (by decide +kernel) rfl, fd_tbi 115 (by decide +kernel) rfl, fd_tbi 1645 (by decide +kernel) rfl, by decide, rfl, by decide, by decide, by decide +kernel⟩
theorem ml_X12_169 : Cond.methodLink RX12 169 yX12_fault ∈ fd_TB := fd_tbi 1642 (by decide +kernel) rfl
theorem yv_X12_oneOf : fd_Yv yX12_oneOf cX12_oneOf 4 (some .int) RX12 3 := ⟨fd_tbi 1640 (by decide +kernel) rfl, fd_tbi 53 (by decide +kernel) rfl, fd_tbi 115 (by decide +kernel) rfl, fd_tbi 1641 (by decide +kernel) rfl, by decide, rfl, by decide, by decide, by decide +kernel⟩
theorem ml_X12_173 : Cond.methodLink RX12 173 yX12_oneOf ∈ fd_TB := fd_tbi 1638 (by decide +kernel) rfl
theorem yv_X12_number : fd_Yv yX12_number cX12_number 4 (some .int) RX12 1 := ⟨fd_tbi 1652 (by decide +kernel) rfl, fd_tbi 56 (by decide +kernel) rfl, fd_tbi 115 (by decide +kernel) rfl, fd_tbi 1653 (by decide +kernel) rfl, by decide, rfl, by decide, by decide, by decide +kernel⟩
theorem ml_X12_177 : Cond.methodLink RX12 177 yX12_number ∈ fd_TB := fd_tbi 1650 (by decide +kernel) rfl
theorem fl_X12_181 : fd_Fl RX12 181 12 25 := ⟨RX12, TX12, 62, rfl, by decide, inX12, Or.inl (fd_tbi 1441 (by decide +kernel) rfl)⟩
theorem fl_X12_43 : fd_Fl RX12 43 12 23 := ⟨RX12, TX12, 62, rfl, by decide, inX12, Or.inl (fd_tbi 1439 (by decide +kernel) rfl)⟩
theorem fp_X12_25 : fd_Fp 12 25 .int := ⟨RX12, TX12, 62, tyX12, rfl, tyX12_ok, nmX12, rfl, rfl⟩
theorem fl_X12_184 : fd_Fl RX12 184 12 3 := ⟨RX12, TX12, 62, rfl, by decide, inX12, Or.inl (fd_tbi 1419 (by decide +kernel) rfl)⟩
theorem fl_X12_187 : fd_Fl RX12 187 12 26 := ⟨RX12, TX12, 62, rfl, by decide, inX12, Or.inl (fd_tbi 1442 (by decide +kernel) rfl)⟩
theorem fl_X12_46 : fd_Fl RX12 46 12 24 := ⟨RX12, TX12, 62, rfl, by decide, inX12, Or.inl (fd_tbi 1440 (by decide +kernel) rfl)⟩
theorem yv_X12_number_ : fd_Yv yX12_number_ cX12_number_ 4 (some .int) RX12 2 := ⟨fd_tbi 1648 (by decide +kernel) rfl, fd_tbi 55 (by decide +kernel) rfl, fd_tbi 115 (by decide +kernel) rfl, fd_tbi 1649 (by decide +kernel) rfl, by decide, rfl, by decide, by decide, by decide +kernel⟩
theorem ml_X12_190 : Cond.methodLink RX12 190 yX12_number_ ∈ fd_TB := fd_tbi 1646 (by decide +kernel) rfl
theorem fp_X12_26 : fd_Fp 12 26 .int := ⟨RX12, TX12, 62, tyX12, rfl, tyX12_ok, nmX12, rfl, rfl⟩
theorem yv_X12_begin : fd_Yv yX12_begin cX12_begin 4 none RX12 3 := ⟨fd_tbi 1624 (by decide +kernel) rfl, fd_tbi 49 (by decide +kernel) rfl, fd_tbi 115 (by decide +kernel) rfl, fd_tbi 1625 (by decide +kernel) rfl, by decide, rfl, by decide, by decide, by decide +kernel⟩
theorem ml_X12_193 : Cond.methodLink RX12 193 yX12_begin ∈ fd_TB := fd_tbi 1622 (by decide +kernel) rfl
theorem yv_X12_readLine : fd_Yv yX12_readLine cX12_readLine 3 none RX12 0 := ⟨fd_tbi 1632 (by decide +kernel) rfl, fd_tbi 51 (by decide +kernel) rfl, fd_tbi 115 (by decide +kernel) rfl, fd_tbi 1633 (by decide +kernel) rfl, by decide, rfl, by decide, by decide, by decide +kernel⟩
theorem ml_X12_197 : Cond.methodLink RX12 197 yX12_readLine ∈ fd_TB := fd_tbi 1630 (by decide +kernel) rfl
theorem fl_X12_13 : fd_Fl RX12 13 12 2 := ⟨RX12, TX12, 62, rfl, by decide, inX12, Or.inl (fd_tbi 1418 (by decide +kernel) rfl)⟩
theorem fp_X12_1 : fd_Fp 12 1 .int := ⟨RX12, TX12, 62, tyX12, rfl, tyX12_ok, nmX12, rfl, rfl⟩
theorem fl_X12_16 : fd_Fl RX12 16 12 4 := ⟨RX12, TX12, 62, rfl, by decide, inX12, Or.inl (fd_tbi 1420 (by decide +kernel) rfl)⟩
theorem ml_X12_200 : Cond.methodLink RX12 200 Lib.Math.min.name ∈ fd_TB := fd_tbi 1658 (by decide +kernel) rfl
theorem fp_X12_3 : fd_Fp 12 3 .int := ⟨RX12, TX12, 62, tyX12, rfl, tyX12_ok, nmX12, rfl, rfl⟩
theorem yv_X12_layWays : fd_Yv yX12_layWays cX12_layWays 4 none RX12 0 := ⟨fd_tbi 1661 (by decide +kernel) rfl, fd_tbi 58 (by decide +kernel) rfl, fd_tbi 115 (by decide +kernel) rfl, fd_tbi 1662 (by decide +kernel) rfl, by decide, rfl, by decide, by decide, by decide +kernel⟩
theorem ml_X12_205 : Cond.methodLink RX12 205 yX12_layWays ∈ fd_TB := fd_tbi 1659 (by decide +kernel) rfl
theorem fl_X12_208 : fd_Fl RX12 208 12 34 := ⟨RX12, TX12, 62, rfl, by decide, inX12, Or.inl (fd_tbi 1450 (by decide +kernel) rfl)⟩
theorem fp_X12_34 : fd_Fp 12 34 .int := ⟨RX12, TX12, 62, tyX12, rfl, tyX12_ok, nmX12, rfl, rfl⟩
theorem fl_X12_211 : fd_Fl RX12 211 12 58 := ⟨RX12, TX12, 62, rfl, by decide, inX12, Or.inl (fd_tbi 1474 (by decide +kernel) rfl)⟩
theorem fp_X12_58 : fd_Fp 12 58 .int := ⟨RX12, TX12, 62, tyX12, rfl, tyX12_ok, nmX12, rfl, rfl⟩
theorem fl_X12_49 : fd_Fl RX12 49 12 27 := ⟨RX12, TX12, 62, rfl, by decide, inX12, Or.inl (fd_tbi 1443 (by decide +kernel) rfl)⟩
theorem fl_X12_52 : fd_Fl RX12 52 12 28 := ⟨RX12, TX12, 62, rfl, by decide, inX12, Or.inl (fd_tbi 1444 (by decide +kernel) rfl)⟩
theorem yv_X12_need : fd_Yv yX12_need cX12_need 2 none RX12 1 := ⟨fd_tbi 1673 (by decide +kernel) rfl, fd_tbi 60 (by decide +kernel) rfl, fd_tbi 115 (by decide +kernel) rfl, fd_tbi 1674 (by decide +kernel) rfl, by decide, rfl, by decide, by decide, by decide +kernel⟩
theorem ml_X12_214 : Cond.methodLink RX12 214 yX12_need ∈ fd_TB := fd_tbi 1671 (by decide +kernel) rfl
theorem yv_X12_readFeast : fd_Yv yX12_readFeast cX12_readFeast 2 none RX12 1 := ⟨fd_tbi 1669 (by decide +kernel) rfl, fd_tbi 59 (by decide +kernel) rfl, fd_tbi 115 (by decide +kernel) rfl, fd_tbi 1670 (by decide +kernel) rfl, by decide, rfl, by decide, by decide, by decide +kernel⟩
theorem ml_X12_218 : Cond.methodLink RX12 218 yX12_readFeast ∈ fd_TB := fd_tbi 1667 (by decide +kernel) rfl
theorem fl_X12_19 : fd_Fl RX12 19 12 6 := ⟨RX12, TX12, 62, rfl, by decide, inX12, Or.inl (fd_tbi 1422 (by decide +kernel) rfl)⟩
theorem fl_X12_9 : fd_Fl RX12 9 12 0 := ⟨RX12, TX12, 62, rfl, by decide, inX12, Or.inl (fd_tbi 1416 (by decide +kernel) rfl)⟩
theorem fl_X12_22 : fd_Fl RX12 22 12 7 := ⟨RX12, TX12, 62, rfl, by decide, inX12, Or.inl (fd_tbi 1423 (by decide +kernel) rfl)⟩
theorem fl_X12_25 : fd_Fl RX12 25 12 8 := ⟨RX12, TX12, 62, rfl, by decide, inX12, Or.inl (fd_tbi 1424 (by decide +kernel) rfl)⟩
theorem fp_X12_5 : fd_Fp 12 5 .int := ⟨RX12, TX12, 62, tyX12, rfl, tyX12_ok, nmX12, rfl, rfl⟩
theorem yv_X12_sum : fd_Yv yX12_sum cX12_sum 5 (some .int) RX12 1 := ⟨fd_tbi 1685 (by decide +kernel) rfl, fd_tbi 62 (by decide +kernel) rfl, fd_tbi 115 (by decide +kernel) rfl, fd_tbi 1686 (by decide +kernel) rfl, by decide, rfl, by decide, by decide, by decide +kernel⟩
theorem ml_X12_221 : Cond.methodLink RX12 221 yX12_sum ∈ fd_TB := fd_tbi 1683 (by decide +kernel) rfl
theorem yv_X12_product : fd_Yv yX12_product cX12_product 5 (some .int) RX12 1 := ⟨fd_tbi 1689 (by decide +kernel) rfl, fd_tbi 63 (by decide +kernel) rfl, fd_tbi 115 (by decide +kernel) rfl, fd_tbi 1690 (by decide +kernel) rfl, by decide, rfl, by decide, by decide, by decide +kernel⟩
theorem ml_X12_224 : Cond.methodLink RX12 224 yX12_product ∈ fd_TB := fd_tbi 1687 (by decide +kernel) rfl
theorem yv_X12_thing : fd_Yv yX12_thing cX12_thing 4 (some .int) RX12 1 := ⟨fd_tbi 1693 (by decide +kernel) rfl, fd_tbi 64 (by decide +kernel) rfl, fd_tbi 115 (by decide +kernel) rfl, fd_tbi 1694 (by decide +kernel) rfl, by decide, rfl, by decide, by decide, by decide +kernel⟩
theorem ml_X12_227 : Cond.methodLink RX12 227 yX12_thing ∈ fd_TB := fd_tbi 1691 (by decide +kernel) rfl
theorem yv_X12_held : fd_Yv yX12_held cX12_held 3 (some .int) RX12 1 := ⟨fd_tbi 1681 (by decide +kernel) rfl, fd_tbi 61 (by decide +kernel) rfl, fd_tbi 115 (by decide +kernel) rfl, fd_tbi 1682 (by decide +kernel) rfl, by decide, rfl, by decide, by decide, by decide +kernel⟩
theorem ml_X12_230 : Cond.methodLink RX12 230 yX12_held ∈ fd_TB := fd_tbi 1679 (by decide +kernel) rfl
theorem yv_X12_letterOf : fd_Ys yX12_letterOf cX12_letterOf 1 (some .int) 1 := ⟨fd_tbi 1696 (by decide +kernel) rfl, fd_tbi 115 (by decide +kernel) rfl, fd_tbi 1697 (by decide +kernel) rfl, by decide, by decide, by decide, by decide +kernel⟩
theorem ml_X12_233 : Cond.methodLink RX12 233 yX12_letterOf ∈ fd_TB := fd_tbi 1695 (by decide +kernel) rfl
theorem fl_X12_236 : fd_Fl RX12 236 12 31 := ⟨RX12, TX12, 62, rfl, by decide, inX12, Or.inl (fd_tbi 1447 (by decide +kernel) rfl)⟩
theorem fl_X12_58 : fd_Fl RX12 58 12 32 := ⟨RX12, TX12, 62, rfl, by decide, inX12, Or.inl (fd_tbi 1448 (by decide +kernel) rfl)⟩
theorem fp_X12_31 : fd_Fp 12 31 .boolean := ⟨RX12, TX12, 62, tyX12, rfl, tyX12_ok, nmX12, rfl, rfl⟩
theorem fl_X12_55 : fd_Fl RX12 55 12 29 := ⟨RX12, TX12, 62, rfl, by decide, inX12, Or.inl (fd_tbi 1445 (by decide +kernel) rfl)⟩
theorem fl_X12_240 : fd_Fl RX12 240 12 30 := ⟨RX12, TX12, 62, rfl, by decide, inX12, Or.inl (fd_tbi 1446 (by decide +kernel) rfl)⟩
theorem fp_X12_30 : fd_Fp 12 30 .int := ⟨RX12, TX12, 62, tyX12, rfl, tyX12_ok, nmX12, rfl, rfl⟩
theorem fl_X12_243 : fd_Fl RX12 243 12 10 := ⟨RX12, TX12, 62, rfl, by decide, inX12, Or.inl (fd_tbi 1426 (by decide +kernel) rfl)⟩
theorem fl_X12_32 : fd_Fl RX12 32 12 11 := ⟨RX12, TX12, 62, rfl, by decide, inX12, Or.inl (fd_tbi 1427 (by decide +kernel) rfl)⟩
theorem fl_X12_246 : fd_Fl RX12 246 12 12 := ⟨RX12, TX12, 62, rfl, by decide, inX12, Or.inl (fd_tbi 1428 (by decide +kernel) rfl)⟩
theorem yv_X12_isMoonless : fd_Yv yX12_isMoonless cX12_isMoonless 2 (some .boolean) RX12 1 := ⟨fd_tbi 1759 (by decide +kernel) rfl, fd_tbi 73 (by decide +kernel) rfl, fd_tbi 115 (by decide +kernel) rfl, fd_tbi 1760 (by decide +kernel) rfl, by decide, rfl, by decide, by decide, by decide +kernel⟩
theorem ml_X12_249 : Cond.methodLink RX12 249 yX12_isMoonless ∈ fd_TB := fd_tbi 1757 (by decide +kernel) rfl
theorem fl_X12_28 : fd_Fl RX12 28 12 9 := ⟨RX12, TX12, 62, rfl, by decide, inX12, Or.inl (fd_tbi 1425 (by decide +kernel) rfl)⟩
theorem yv_X12_isOn : fd_Ys yX12_isOn cX12_isOn 3 (some .boolean) 3 := ⟨fd_tbi 1715 (by decide +kernel) rfl, fd_tbi 115 (by decide +kernel) rfl, fd_tbi 1716 (by decide +kernel) rfl, by decide, by decide, by decide, by decide +kernel⟩
theorem ml_X12_253 : Cond.methodLink RX12 253 yX12_isOn ∈ fd_TB := fd_tbi 1714 (by decide +kernel) rfl
theorem yv_X12_has : fd_Ys yX12_has cX12_has 2 (some .boolean) 2 := ⟨fd_tbi 1734 (by decide +kernel) rfl, fd_tbi 115 (by decide +kernel) rfl, fd_tbi 1735 (by decide +kernel) rfl, by decide, by decide, by decide, by decide +kernel⟩
theorem ml_X12_257 : Cond.methodLink RX12 257 yX12_has ∈ fd_TB := fd_tbi 1733 (by decide +kernel) rfl
theorem yv_X12_isVillage : fd_Yv yX12_isVillage cX12_isVillage 2 (some .boolean) RX12 1 := ⟨fd_tbi 1704 (by decide +kernel) rfl, fd_tbi 65 (by decide +kernel) rfl, fd_tbi 115 (by decide +kernel) rfl, fd_tbi 1705 (by decide +kernel) rfl, by decide, rfl, by decide, by decide, by decide +kernel⟩
theorem ml_X12_261 : Cond.methodLink RX12 261 yX12_isVillage ∈ fd_TB := fd_tbi 1702 (by decide +kernel) rfl
theorem yv_X12_lost : fd_Yv yX12_lost cX12_lost 1 (some .int) RX12 0 := ⟨fd_tbi 1708 (by decide +kernel) rfl, fd_tbi 66 (by decide +kernel) rfl, fd_tbi 115 (by decide +kernel) rfl, fd_tbi 1709 (by decide +kernel) rfl, by decide, rfl, by decide, by decide, by decide +kernel⟩
theorem ml_X12_264 : Cond.methodLink RX12 264 yX12_lost ∈ fd_TB := fd_tbi 1706 (by decide +kernel) rfl
theorem yv_X12_feastsAt : fd_Yv yX12_feastsAt cX12_feastsAt 6 (some .int) RX12 3 := ⟨fd_tbi 1712 (by decide +kernel) rfl, fd_tbi 67 (by decide +kernel) rfl, fd_tbi 115 (by decide +kernel) rfl, fd_tbi 1713 (by decide +kernel) rfl, by decide, rfl, by decide, by decide, by decide +kernel⟩
theorem ml_X12_267 : Cond.methodLink RX12 267 yX12_feastsAt ∈ fd_TB := fd_tbi 1710 (by decide +kernel) rfl
theorem yv_X12_wayOf : fd_Yv yX12_wayOf cX12_wayOf 3 (some .int) RX12 2 := ⟨fd_tbi 1719 (by decide +kernel) rfl, fd_tbi 68 (by decide +kernel) rfl, fd_tbi 115 (by decide +kernel) rfl, fd_tbi 1720 (by decide +kernel) rfl, by decide, rfl, by decide, by decide, by decide +kernel⟩
theorem ml_X12_271 : Cond.methodLink RX12 271 yX12_wayOf ∈ fd_TB := fd_tbi 1717 (by decide +kernel) rfl
theorem cw_X12_122 : Cond.constant RX12 122 (1000000 : Int32) ∈ fd_TB := fd_tbi 1415 (by decide +kernel) rfl
theorem yv_X12_isFeast : fd_Yv yX12_isFeast cX12_isFeast 2 (some .boolean) RX12 1 := ⟨fd_tbi 1727 (by decide +kernel) rfl, fd_tbi 69 (by decide +kernel) rfl, fd_tbi 115 (by decide +kernel) rfl, fd_tbi 1728 (by decide +kernel) rfl, by decide, rfl, by decide, by decide, by decide +kernel⟩
theorem ml_X12_274 : Cond.methodLink RX12 274 yX12_isFeast ∈ fd_TB := fd_tbi 1725 (by decide +kernel) rfl
theorem yv_X12_late : fd_Yv yX12_late cX12_late 4 (some .int) RX12 1 := ⟨fd_tbi 1731 (by decide +kernel) rfl, fd_tbi 70 (by decide +kernel) rfl, fd_tbi 115 (by decide +kernel) rfl, fd_tbi 1732 (by decide +kernel) rfl, by decide, rfl, by decide, by decide, by decide +kernel⟩
theorem ml_X12_277 : Cond.methodLink RX12 277 yX12_late ∈ fd_TB := fd_tbi 1729 (by decide +kernel) rfl
theorem fp_X12_9 : fd_Fp 12 9 .int := ⟨RX12, TX12, 62, tyX12, rfl, tyX12_ok, nmX12, rfl, rfl⟩
theorem fp_X12_10 : fd_Fp 12 10 .int := ⟨RX12, TX12, 62, tyX12, rfl, tyX12_ok, nmX12, rfl, rfl⟩
theorem fp_X12_11 : fd_Fp 12 11 .int := ⟨RX12, TX12, 62, tyX12, rfl, tyX12_ok, nmX12, rfl, rfl⟩
theorem fp_X12_12 : fd_Fp 12 12 .int := ⟨RX12, TX12, 62, tyX12, rfl, tyX12_ok, nmX12, rfl, rfl⟩
theorem ml_X12_281 : Cond.methodLink RX12 281 Lib.Math.max.name ∈ fd_TB := fd_tbi 1744 (by decide +kernel) rfl
theorem fl_X12_61 : fd_Fl RX12 61 12 33 := ⟨RX12, TX12, 62, rfl, by decide, inX12, Or.inl (fd_tbi 1449 (by decide +kernel) rfl)⟩
theorem yv_X12_lay : fd_Ys yX12_lay cX12_lay 4 none 3 := ⟨fd_tbi 1766 (by decide +kernel) rfl, fd_tbi 115 (by decide +kernel) rfl, fd_tbi 1767 (by decide +kernel) rfl, by decide, by decide, by decide, by decide +kernel⟩
theorem ml_X12_284 : Cond.methodLink RX12 284 yX12_lay ∈ fd_TB := fd_tbi 1765 (by decide +kernel) rfl
theorem yv_X12_walk : fd_Yv yX12_walk cX12_walk 2 (some .int) RX12 1 := ⟨fd_tbi 1755 (by decide +kernel) rfl, fd_tbi 72 (by decide +kernel) rfl, fd_tbi 115 (by decide +kernel) rfl, fd_tbi 1756 (by decide +kernel) rfl, by decide, rfl, by decide, by decide, by decide +kernel⟩
theorem ml_X12_288 : Cond.methodLink RX12 288 yX12_walk ∈ fd_TB := fd_tbi 1753 (by decide +kernel) rfl
theorem fl_X12_291 : fd_Fl RX12 291 12 38 := ⟨RX12, TX12, 62, rfl, by decide, inX12, Or.inl (fd_tbi 1454 (by decide +kernel) rfl)⟩
theorem fp_X12_38 : fd_Fp 12 38 .int := ⟨RX12, TX12, 62, tyX12, rfl, tyX12_ok, nmX12, rfl, rfl⟩
theorem yv_X12_isLent : fd_Yv yX12_isLent cX12_isLent 2 (some .boolean) RX12 1 := ⟨fd_tbi 1774 (by decide +kernel) rfl, fd_tbi 76 (by decide +kernel) rfl, fd_tbi 115 (by decide +kernel) rfl, fd_tbi 1775 (by decide +kernel) rfl, by decide, rfl, by decide, by decide, by decide +kernel⟩
theorem ml_X12_294 : Cond.methodLink RX12 294 yX12_isLent ∈ fd_TB := fd_tbi 1772 (by decide +kernel) rfl
theorem fl_X12_302 : fd_Fl RX12 302 12 36 := ⟨RX12, TX12, 62, rfl, by decide, inX12, Or.inl (fd_tbi 1452 (by decide +kernel) rfl)⟩
theorem ml_X12_297 : Cond.methodLink RX12 297 yJ6_bitCount_0f7a4 ∈ fd_TB := fd_tbi 1776 (by decide +kernel) rfl
theorem fp_X12_36 : fd_Fp 12 36 .int := ⟨RX12, TX12, 62, tyX12, rfl, tyX12_ok, nmX12, rfl, rfl⟩
theorem fl_X12_305 : fd_Fl RX12 305 12 37 := ⟨RX12, TX12, 62, rfl, by decide, inX12, Or.inl (fd_tbi 1453 (by decide +kernel) rfl)⟩
theorem fp_X12_37 : fd_Fp 12 37 .int := ⟨RX12, TX12, 62, tyX12, rfl, tyX12_ok, nmX12, rfl, rfl⟩
theorem cw_X12_308 : Cond.constantLong RX12 308 (99 : Int64) ∈ fd_TB := fd_tbi 1777 (by decide +kernel) rfl
theorem yv_X12_tiresBy : fd_Yv yX12_tiresBy cX12_tiresBy 8 (some .int) RX12 6 := ⟨fd_tbi 1780 (by decide +kernel) rfl, fd_tbi 77 (by decide +kernel) rfl, fd_tbi 115 (by decide +kernel) rfl, fd_tbi 1781 (by decide +kernel) rfl, by decide, rfl, by decide, by decide, by decide +kernel⟩
theorem ml_X12_310 : Cond.methodLink RX12 310 yX12_tiresBy ∈ fd_TB := fd_tbi 1778 (by decide +kernel) rfl
theorem ml_X12_314 : Cond.methodLink RX12 314 Lib.MathLoose.min_long.x ∈ fd_TB := fd_tbi 1782 (by decide +kernel) rfl
theorem ml_X12_317 : Cond.methodLink RX12 317 Lib.MathLoose.max_long.x ∈ fd_TB := fd_tbi 1783 (by decide +kernel) rfl
theorem yv_X12_canGo : fd_Yv yX12_canGo cX12_canGo 3 (some .boolean) RX12 2 := ⟨fd_tbi 1751 (by decide +kernel) rfl, fd_tbi 71 (by decide +kernel) rfl, fd_tbi 115 (by decide +kernel) rfl, fd_tbi 1752 (by decide +kernel) rfl, by decide, rfl, by decide, by decide, by decide +kernel⟩
theorem ml_X12_319 : Cond.methodLink RX12 319 yX12_canGo ∈ fd_TB := fd_tbi 1749 (by decide +kernel) rfl
theorem yv_X12_remember : fd_Yv yX12_remember cX12_remember 3 none RX12 1 := ⟨fd_tbi 1763 (by decide +kernel) rfl, fd_tbi 74 (by decide +kernel) rfl, fd_tbi 115 (by decide +kernel) rfl, fd_tbi 1764 (by decide +kernel) rfl, by decide, rfl, by decide, by decide, by decide +kernel⟩
theorem ml_X12_323 : Cond.methodLink RX12 323 yX12_remember ∈ fd_TB := fd_tbi 1761 (by decide +kernel) rfl
theorem yv_X12_goNight : fd_Yv yX12_goNight cX12_goNight 8 none RX12 2 := ⟨fd_tbi 1770 (by decide +kernel) rfl, fd_tbi 75 (by decide +kernel) rfl, fd_tbi 115 (by decide +kernel) rfl, fd_tbi 1771 (by decide +kernel) rfl, by decide, rfl, by decide, by decide, by decide +kernel⟩
theorem ml_X12_327 : Cond.methodLink RX12 327 yX12_goNight ∈ fd_TB := fd_tbi 1768 (by decide +kernel) rfl
theorem yv_X12_tell : fd_Yv yX12_tell cX12_tell 3 none RX12 1 := ⟨fd_tbi 1786 (by decide +kernel) rfl, fd_tbi 78 (by decide +kernel) rfl, fd_tbi 115 (by decide +kernel) rfl, fd_tbi 1787 (by decide +kernel) rfl, by decide, rfl, by decide, by decide, by decide +kernel⟩
theorem ml_X12_331 : Cond.methodLink RX12 331 yX12_tell ∈ fd_TB := fd_tbi 1784 (by decide +kernel) rfl
theorem fl_X12_335 : fd_Fl RX12 335 12 39 := ⟨RX12, TX12, 62, rfl, by decide, inX12, Or.inl (fd_tbi 1455 (by decide +kernel) rfl)⟩
theorem fp_X12_39 : fd_Fp 12 39 .int := ⟨RX12, TX12, 62, tyX12, rfl, tyX12_ok, nmX12, rfl, rfl⟩
theorem fl_X12_338 : fd_Fl RX12 338 12 40 := ⟨RX12, TX12, 62, rfl, by decide, inX12, Or.inl (fd_tbi 1456 (by decide +kernel) rfl)⟩
theorem fp_X12_40 : fd_Fp 12 40 .int := ⟨RX12, TX12, 62, tyX12, rfl, tyX12_ok, nmX12, rfl, rfl⟩
theorem yv_X12_goStay : fd_Yv yX12_goStay cX12_goStay 4 none RX12 2 := ⟨fd_tbi 1794 (by decide +kernel) rfl, fd_tbi 79 (by decide +kernel) rfl, fd_tbi 115 (by decide +kernel) rfl, fd_tbi 1795 (by decide +kernel) rfl, by decide, rfl, by decide, by decide, by decide +kernel⟩
theorem ml_X12_341 : Cond.methodLink RX12 341 yX12_goStay ∈ fd_TB := fd_tbi 1792 (by decide +kernel) rfl
theorem yv_X12_canMend : fd_Yv yX12_canMend cX12_canMend 1 (some .boolean) RX12 0 := ⟨fd_tbi 1802 (by decide +kernel) rfl, fd_tbi 80 (by decide +kernel) rfl, fd_tbi 115 (by decide +kernel) rfl, fd_tbi 1803 (by decide +kernel) rfl, by decide, rfl, by decide, by decide, by decide +kernel⟩
theorem ml_X12_344 : Cond.methodLink RX12 344 yX12_canMend ∈ fd_TB := fd_tbi 1800 (by decide +kernel) rfl
theorem yv_X12_goMend : fd_Yv yX12_goMend cX12_goMend 2 (some .int) RX12 0 := ⟨fd_tbi 1806 (by decide +kernel) rfl, fd_tbi 81 (by decide +kernel) rfl, fd_tbi 115 (by decide +kernel) rfl, fd_tbi 1807 (by decide +kernel) rfl, by decide, rfl, by decide, by decide, by decide +kernel⟩
theorem ml_X12_347 : Cond.methodLink RX12 347 yX12_goMend ∈ fd_TB := fd_tbi 1804 (by decide +kernel) rfl
theorem yv_X12_readAct : fd_Yv yX12_readAct cX12_readAct 3 none RX12 1 := ⟨fd_tbi 1818 (by decide +kernel) rfl, fd_tbi 82 (by decide +kernel) rfl, fd_tbi 115 (by decide +kernel) rfl, fd_tbi 1819 (by decide +kernel) rfl, by decide, rfl, by decide, by decide, by decide +kernel⟩
theorem ml_X12_350 : Cond.methodLink RX12 350 yX12_readAct ∈ fd_TB := fd_tbi 1816 (by decide +kernel) rfl
theorem fl_X12_64 : fd_Fl RX12 64 12 35 := ⟨RX12, TX12, 62, rfl, by decide, inX12, Or.inl (fd_tbi 1451 (by decide +kernel) rfl)⟩
theorem fl_X12_67 : fd_Fl RX12 67 12 41 := ⟨RX12, TX12, 62, rfl, by decide, inX12, Or.inl (fd_tbi 1457 (by decide +kernel) rfl)⟩
theorem yv_X12_act : fd_Yv yX12_act cX12_act 3 (some .boolean) RX12 2 := ⟨fd_tbi 1822 (by decide +kernel) rfl, fd_tbi 83 (by decide +kernel) rfl, fd_tbi 115 (by decide +kernel) rfl, fd_tbi 1823 (by decide +kernel) rfl, by decide, rfl, by decide, by decide, by decide +kernel⟩
theorem ml_X12_353 : Cond.methodLink RX12 353 yX12_act ∈ fd_TB := fd_tbi 1820 (by decide +kernel) rfl
theorem yv_X12_near : fd_Yv yX12_near cX12_near 5 (some .int) RX12 2 := ⟨fd_tbi 1838 (by decide +kernel) rfl, fd_tbi 84 (by decide +kernel) rfl, fd_tbi 115 (by decide +kernel) rfl, fd_tbi 1839 (by decide +kernel) rfl, by decide, rfl, by decide, by decide, by decide +kernel⟩
theorem ml_X12_356 : Cond.methodLink RX12 356 yX12_near ∈ fd_TB := fd_tbi 1836 (by decide +kernel) rfl
theorem fl_X12_70 : fd_Fl RX12 70 12 42 := ⟨RX12, TX12, 62, rfl, by decide, inX12, Or.inl (fd_tbi 1458 (by decide +kernel) rfl)⟩
theorem yv_X12_canSleep : fd_Yv yX12_canSleep cX12_canSleep 5 (some .boolean) RX12 2 := ⟨fd_tbi 1846 (by decide +kernel) rfl, fd_tbi 85 (by decide +kernel) rfl, fd_tbi 115 (by decide +kernel) rfl, fd_tbi 1847 (by decide +kernel) rfl, by decide, rfl, by decide, by decide, by decide +kernel⟩
theorem ml_X12_359 : Cond.methodLink RX12 359 yX12_canSleep ∈ fd_TB := fd_tbi 1844 (by decide +kernel) rfl
theorem yv_J6_numberOfTrailingZeros_0f7a4 : fd_Ys yJ6_numberOfTrailingZeros_0f7a4 cJ6_numberOfTrailingZeros_0f7a4 2 (some .int) 1 := ⟨fd_tbi 1849 (by decide +kernel) rfl, fd_tbi 125 (by decide +kernel) rfl, fd_tbi 1850 (by decide +kernel) rfl, by decide, by decide, by decide, by decide +kernel⟩
theorem ml_X12_362 : Cond.methodLink RX12 362 yJ6_numberOfTrailingZeros_0f7a4 ∈ fd_TB := fd_tbi 1848 (by decide +kernel) rfl
theorem cw_J6_264 : Cond.constant RJ6 264 (65536 : Int32) ∈ fd_TB := fd_tbi 1851 (by decide +kernel) rfl
theorem fl_X12_79 : fd_Fl RX12 79 12 45 := ⟨RX12, TX12, 62, rfl, by decide, inX12, Or.inl (fd_tbi 1461 (by decide +kernel) rfl)⟩
theorem fl_X12_76 : fd_Fl RX12 76 12 44 := ⟨RX12, TX12, 62, rfl, by decide, inX12, Or.inl (fd_tbi 1460 (by decide +kernel) rfl)⟩
theorem yv_X12_playsAt : fd_Yv yX12_playsAt cX12_playsAt 5 (some .int) RX12 2 := ⟨fd_tbi 1885 (by decide +kernel) rfl, fd_tbi 92 (by decide +kernel) rfl, fd_tbi 115 (by decide +kernel) rfl, fd_tbi 1886 (by decide +kernel) rfl, by decide, rfl, by decide, by decide, by decide +kernel⟩
theorem ml_X12_365 : Cond.methodLink RX12 365 yX12_playsAt ∈ fd_TB := fd_tbi 1883 (by decide +kernel) rfl
theorem yv_X12_gain : fd_Yv yX12_gain cX12_gain 4 (some .int) RX12 1 := ⟨fd_tbi 1889 (by decide +kernel) rfl, fd_tbi 93 (by decide +kernel) rfl, fd_tbi 115 (by decide +kernel) rfl, fd_tbi 1890 (by decide +kernel) rfl, by decide, rfl, by decide, by decide, by decide +kernel⟩
theorem ml_X12_368 : Cond.methodLink RX12 368 yX12_gain ∈ fd_TB := fd_tbi 1887 (by decide +kernel) rfl
theorem fl_X12_73 : fd_Fl RX12 73 12 43 := ⟨RX12, TX12, 62, rfl, by decide, inX12, Or.inl (fd_tbi 1459 (by decide +kernel) rfl)⟩
theorem yv_X12_cell : fd_Ys yX12_cell cX12_cell 3 (some .int) 3 := ⟨fd_tbi 1877 (by decide +kernel) rfl, fd_tbi 115 (by decide +kernel) rfl, fd_tbi 1878 (by decide +kernel) rfl, by decide, by decide, by decide, by decide +kernel⟩
theorem ml_X12_371 : Cond.methodLink RX12 371 yX12_cell ∈ fd_TB := fd_tbi 1876 (by decide +kernel) rfl
theorem yv_X12_valueBy : fd_Yv yX12_valueBy cX12_valueBy 5 (some .int) RX12 3 := ⟨fd_tbi 1881 (by decide +kernel) rfl, fd_tbi 91 (by decide +kernel) rfl, fd_tbi 115 (by decide +kernel) rfl, fd_tbi 1882 (by decide +kernel) rfl, by decide, rfl, by decide, by decide, by decide +kernel⟩
theorem ml_X12_375 : Cond.methodLink RX12 375 yX12_valueBy ∈ fd_TB := fd_tbi 1879 (by decide +kernel) rfl
theorem yv_X12_layMost : fd_Yv yX12_layMost cX12_layMost 9 none RX12 1 := ⟨fd_tbi 1874 (by decide +kernel) rfl, fd_tbi 90 (by decide +kernel) rfl, fd_tbi 115 (by decide +kernel) rfl, fd_tbi 1875 (by decide +kernel) rfl, by decide, rfl, by decide, by decide, by decide +kernel⟩
theorem ml_X12_378 : Cond.methodLink RX12 378 yX12_layMost ∈ fd_TB := fd_tbi 1872 (by decide +kernel) rfl
theorem fl_X12_82 : fd_Fl RX12 82 12 46 := ⟨RX12, TX12, 62, rfl, by decide, inX12, Or.inl (fd_tbi 1462 (by decide +kernel) rfl)⟩
theorem fl_X12_381 : fd_Fl RX12 381 12 47 := ⟨RX12, TX12, 62, rfl, by decide, inX12, Or.inl (fd_tbi 1463 (by decide +kernel) rfl)⟩
theorem fp_X12_47 : fd_Fp 12 47 .int := ⟨RX12, TX12, 62, tyX12, rfl, tyX12_ok, nmX12, rfl, rfl⟩
theorem yv_X12_layLine : fd_Yv yX12_layLine cX12_layLine 9 (some .int) RX12 3 := ⟨fd_tbi 1870 (by decide +kernel) rfl, fd_tbi 89 (by decide +kernel) rfl, fd_tbi 115 (by decide +kernel) rfl, fd_tbi 1871 (by decide +kernel) rfl, by decide, rfl, by decide, by decide, by decide +kernel⟩
theorem ml_X12_384 : Cond.methodLink RX12 384 yX12_layLine ∈ fd_TB := fd_tbi 1868 (by decide +kernel) rfl
theorem yv_X12_canRound : fd_Yv yX12_canRound cX12_canRound 2 (some .boolean) RX12 1 := ⟨fd_tbi 1858 (by decide +kernel) rfl, fd_tbi 86 (by decide +kernel) rfl, fd_tbi 115 (by decide +kernel) rfl, fd_tbi 1859 (by decide +kernel) rfl, by decide, rfl, by decide, by decide, by decide +kernel⟩
theorem ml_X12_387 : Cond.methodLink RX12 387 yX12_canRound ∈ fd_TB := fd_tbi 1856 (by decide +kernel) rfl
theorem yv_X12_beginRound : fd_Yv yX12_beginRound cX12_beginRound 3 none RX12 1 := ⟨fd_tbi 1862 (by decide +kernel) rfl, fd_tbi 87 (by decide +kernel) rfl, fd_tbi 115 (by decide +kernel) rfl, fd_tbi 1863 (by decide +kernel) rfl, by decide, rfl, by decide, by decide, by decide +kernel⟩
theorem ml_X12_390 : Cond.methodLink RX12 390 yX12_beginRound ∈ fd_TB := fd_tbi 1860 (by decide +kernel) rfl
theorem yv_X12_tellRound : fd_Yv yX12_tellRound cX12_tellRound 4 (some .int) RX12 1 := ⟨fd_tbi 1866 (by decide +kernel) rfl, fd_tbi 88 (by decide +kernel) rfl, fd_tbi 115 (by decide +kernel) rfl, fd_tbi 1867 (by decide +kernel) rfl, by decide, rfl, by decide, by decide, by decide +kernel⟩
theorem ml_X12_394 : Cond.methodLink RX12 394 yX12_tellRound ∈ fd_TB := fd_tbi 1864 (by decide +kernel) rfl
theorem yv_X12_playsAll : fd_Yv yX12_playsAll cX12_playsAll 4 (some .boolean) RX12 2 := ⟨fd_tbi 1901 (by decide +kernel) rfl, fd_tbi 94 (by decide +kernel) rfl, fd_tbi 115 (by decide +kernel) rfl, fd_tbi 1902 (by decide +kernel) rfl, by decide, rfl, by decide, by decide, by decide +kernel⟩
theorem ml_X12_397 : Cond.methodLink RX12 397 yX12_playsAll ∈ fd_TB := fd_tbi 1899 (by decide +kernel) rfl
theorem fl_X12_85 : fd_Fl RX12 85 12 48 := ⟨RX12, TX12, 62, rfl, by decide, inX12, Or.inl (fd_tbi 1464 (by decide +kernel) rfl)⟩
theorem fl_X12_89 : fd_Fl RX12 89 12 49 := ⟨RX12, TX12, 62, rfl, by decide, inX12, Or.inl (fd_tbi 1465 (by decide +kernel) rfl)⟩
theorem yv_X12_layCanBe : fd_Yv yX12_layCanBe cX12_layCanBe 9 none RX12 1 := ⟨fd_tbi 1909 (by decide +kernel) rfl, fd_tbi 95 (by decide +kernel) rfl, fd_tbi 115 (by decide +kernel) rfl, fd_tbi 1910 (by decide +kernel) rfl, by decide, rfl, by decide, by decide, by decide +kernel⟩
theorem ml_X12_400 : Cond.methodLink RX12 400 yX12_layCanBe ∈ fd_TB := fd_tbi 1907 (by decide +kernel) rfl
theorem yv_X12_isWithin : fd_Yv yX12_isWithin cX12_isWithin 4 (some .boolean) RX12 1 := ⟨fd_tbi 1913 (by decide +kernel) rfl, fd_tbi 96 (by decide +kernel) rfl, fd_tbi 115 (by decide +kernel) rfl, fd_tbi 1914 (by decide +kernel) rfl, by decide, rfl, by decide, by decide, by decide +kernel⟩
theorem ml_X12_403 : Cond.methodLink RX12 403 yX12_isWithin ∈ fd_TB := fd_tbi 1911 (by decide +kernel) rfl
theorem yv_X12_mostBids : fd_Yv yX12_mostBids cX12_mostBids 2 (some .int) RX12 1 := ⟨fd_tbi 1921 (by decide +kernel) rfl, fd_tbi 97 (by decide +kernel) rfl, fd_tbi 115 (by decide +kernel) rfl, fd_tbi 1922 (by decide +kernel) rfl, by decide, rfl, by decide, by decide, by decide +kernel⟩
theorem ml_X12_406 : Cond.methodLink RX12 406 yX12_mostBids ∈ fd_TB := fd_tbi 1919 (by decide +kernel) rfl
theorem fl_X12_101 : fd_Fl RX12 101 12 54 := ⟨RX12, TX12, 62, rfl, by decide, inX12, Or.inl (fd_tbi 1470 (by decide +kernel) rfl)⟩
theorem fl_X12_409 : fd_Fl RX12 409 12 53 := ⟨RX12, TX12, 62, rfl, by decide, inX12, Or.inl (fd_tbi 1469 (by decide +kernel) rfl)⟩
theorem yv_X12_readTune : fd_Yv yX12_readTune cX12_readTune 3 (some .int) RX12 0 := ⟨fd_tbi 1941 (by decide +kernel) rfl, fd_tbi 98 (by decide +kernel) rfl, fd_tbi 115 (by decide +kernel) rfl, fd_tbi 1942 (by decide +kernel) rfl, by decide, rfl, by decide, by decide, by decide +kernel⟩
theorem ml_X12_412 : Cond.methodLink RX12 412 yX12_readTune ∈ fd_TB := fd_tbi 1939 (by decide +kernel) rfl
theorem fl_X12_92 : fd_Fl RX12 92 12 50 := ⟨RX12, TX12, 62, rfl, by decide, inX12, Or.inl (fd_tbi 1466 (by decide +kernel) rfl)⟩
theorem fl_X12_95 : fd_Fl RX12 95 12 51 := ⟨RX12, TX12, 62, rfl, by decide, inX12, Or.inl (fd_tbi 1467 (by decide +kernel) rfl)⟩
theorem fl_X12_98 : fd_Fl RX12 98 12 52 := ⟨RX12, TX12, 62, rfl, by decide, inX12, Or.inl (fd_tbi 1468 (by decide +kernel) rfl)⟩
theorem fp_X12_53 : fd_Fp 12 53 .int := ⟨RX12, TX12, 62, tyX12, rfl, tyX12_ok, nmX12, rfl, rfl⟩
theorem fl_X12_104 : fd_Fl RX12 104 12 55 := ⟨RX12, TX12, 62, rfl, by decide, inX12, Or.inl (fd_tbi 1471 (by decide +kernel) rfl)⟩
theorem yv_X12_changesBy : fd_Yv yX12_changesBy cX12_changesBy 11 (some .int) RX12 6 := ⟨fd_tbi 1961 (by decide +kernel) rfl, fd_tbi 101 (by decide +kernel) rfl, fd_tbi 115 (by decide +kernel) rfl, fd_tbi 1962 (by decide +kernel) rfl, by decide, rfl, by decide, by decide, by decide +kernel⟩
theorem ml_X12_415 : Cond.methodLink RX12 415 yX12_changesBy ∈ fd_TB := fd_tbi 1959 (by decide +kernel) rfl
theorem yv_X12_isTune : fd_Yv yX12_isTune cX12_isTune 2 (some .boolean) RX12 1 := ⟨fd_tbi 1953 (by decide +kernel) rfl, fd_tbi 99 (by decide +kernel) rfl, fd_tbi 115 (by decide +kernel) rfl, fd_tbi 1954 (by decide +kernel) rfl, by decide, rfl, by decide, by decide, by decide +kernel⟩
theorem ml_X12_419 : Cond.methodLink RX12 419 yX12_isTune ∈ fd_TB := fd_tbi 1951 (by decide +kernel) rfl
theorem yv_X12_differBy : fd_Yv yX12_differBy cX12_differBy 3 (some .int) RX12 2 := ⟨fd_tbi 1957 (by decide +kernel) rfl, fd_tbi 100 (by decide +kernel) rfl, fd_tbi 115 (by decide +kernel) rfl, fd_tbi 1958 (by decide +kernel) rfl, by decide, rfl, by decide, by decide, by decide +kernel⟩
theorem ml_X12_422 : Cond.methodLink RX12 422 yX12_differBy ∈ fd_TB := fd_tbi 1955 (by decide +kernel) rfl
theorem fl_X12_107 : fd_Fl RX12 107 12 56 := ⟨RX12, TX12, 62, rfl, by decide, inX12, Or.inl (fd_tbi 1472 (by decide +kernel) rfl)⟩
theorem yv_X12_common : fd_Ys yX12_common cX12_common 4 (some .long) 2 := ⟨fd_tbi 1981 (by decide +kernel) rfl, fd_tbi 115 (by decide +kernel) rfl, fd_tbi 1982 (by decide +kernel) rfl, by decide, by decide, by decide, by decide +kernel⟩
theorem ml_X12_425 : Cond.methodLink RX12 425 yX12_common ∈ fd_TB := fd_tbi 1980 (by decide +kernel) rfl
theorem cw_X12_428 : Cond.constantLong RX12 428 (10 : Int64) ∈ fd_TB := fd_tbi 1979 (by decide +kernel) rfl
theorem yv_X12_gets : fd_Ys yX12_gets cX12_gets 4 (some .int) 4 := ⟨fd_tbi 1991 (by decide +kernel) rfl, fd_tbi 115 (by decide +kernel) rfl, fd_tbi 1992 (by decide +kernel) rfl, by decide, by decide, by decide, by decide +kernel⟩
theorem ml_X12_430 : Cond.methodLink RX12 430 yX12_gets ∈ fd_TB := fd_tbi 1990 (by decide +kernel) rfl
theorem yv_X12_isBest : fd_Ys yX12_isBest cX12_isBest 5 (some .boolean) 4 := ⟨fd_tbi 1988 (by decide +kernel) rfl, fd_tbi 115 (by decide +kernel) rfl, fd_tbi 1989 (by decide +kernel) rfl, by decide, by decide, by decide, by decide +kernel⟩
theorem ml_X12_434 : Cond.methodLink RX12 434 yX12_isBest ∈ fd_TB := fd_tbi 1987 (by decide +kernel) rfl
theorem fl_X12_110 : fd_Fl RX12 110 12 57 := ⟨RX12, TX12, 62, rfl, by decide, inX12, Or.inl (fd_tbi 1473 (by decide +kernel) rfl)⟩
theorem cw_X12_438 : Cond.constant RX12 438 (1103515245 : Int32) ∈ fd_TB := fd_tbi 2001 (by decide +kernel) rfl
theorem fl_X12_116 : fd_Fl RX12 116 12 60 := ⟨RX12, TX12, 62, rfl, by decide, inX12, Or.inl (fd_tbi 1476 (by decide +kernel) rfl)⟩
theorem fl_X12_119 : fd_Fl RX12 119 12 61 := ⟨RX12, TX12, 62, rfl, by decide, inX12, Or.inl (fd_tbi 1477 (by decide +kernel) rfl)⟩
theorem fl_X12_113 : fd_Fl RX12 113 12 59 := ⟨RX12, TX12, 62, rfl, by decide, inX12, Or.inl (fd_tbi 1475 (by decide +kernel) rfl)⟩
