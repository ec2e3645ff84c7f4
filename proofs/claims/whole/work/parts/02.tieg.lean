abbrev ix_wsJ1_fillNull_b72d1 : List Nat := 677 :: [678, 679, 539, 680, 681, 682, 683]
set_option maxRecDepth 20000 in
theorem tie_wsJ1_fillNull_b72d1 : wsJ1_fillNull_b72d1 = tk ix_wsJ1_fillNull_b72d1 := tk_co rfl (rfl)
abbrev ix_wsJ2_fillNull_b72d1 : List Nat := 686 :: [687, 679, 539, 680, 681, 682, 683]
set_option maxRecDepth 20000 in
theorem tie_wsJ2_fillNull_b72d1 : wsJ2_fillNull_b72d1 = tk ix_wsJ2_fillNull_b72d1 := tk_co rfl (rfl)
abbrev ix_wsJ5_append_3fe6f_r1 : List Nat := [508, 101, 517, 518, 519, 520, 96, 521, 102, 522, 523, 524, 525, 526, 527, 528, 529, 530, 531, 532, 436, 437, 438, 533]
set_option maxRecDepth 20000 in
theorem tie_wsJ5_append_3fe6f_r1 : wsJ5_append_3fe6f_r1 = tk ix_wsJ5_append_3fe6f_r1 := rfl
abbrev ix_wsJ5_append_3fe6f_r2 : List Nat := [534, 535, 536, 537, 538, 539, 540, 541, 542, 543, 544, 545, 546, 100, 547, 548, 549, 550, 175, 176, 177, 551, 552, 553]
set_option maxRecDepth 20000 in
theorem tie_wsJ5_append_3fe6f_r2 : wsJ5_append_3fe6f_r2 = tk ix_wsJ5_append_3fe6f_r2 := rfl
abbrev ix_wsJ5_append_3fe6f_r3 : List Nat := [554, 555, 99, 556, 557, 558, 559, 560, 561, 562, 563, 564, 103, 104, 105, 106, 107, 108, 109, 110, 565, 566, 567, 568]
set_option maxRecDepth 20000 in
theorem tie_wsJ5_append_3fe6f_r3 : wsJ5_append_3fe6f_r3 = tk ix_wsJ5_append_3fe6f_r3 := rfl
abbrev ix_wsJ5_append_3fe6f_r4 : List Nat := [569, 570, 571, 572, 573, 574, 575, 576, 577, 578, 579, 580, 581, 582, 583, 584, 585, 586, 587, 588, 589, 590, 591, 592]
set_option maxRecDepth 20000 in
theorem tie_wsJ5_append_3fe6f_r4 : wsJ5_append_3fe6f_r4 = tk ix_wsJ5_append_3fe6f_r4 := rfl
abbrev ix_wsJ5_append_3fe6f_r5 : List Nat := [593, 594, 595, 596, 597, 598, 599, 600, 601, 602, 603]
set_option maxRecDepth 20000 in
theorem tie_wsJ5_append_3fe6f_r5 : wsJ5_append_3fe6f_r5 = tk ix_wsJ5_append_3fe6f_r5 := rfl
abbrev ix_wsJ5_append_3fe6f : List Nat := 516 :: (((ix_wsJ5_append_3fe6f_r1) ++ ((ix_wsJ5_append_3fe6f_r2) ++ ((ix_wsJ5_append_3fe6f_r3) ++ ((ix_wsJ5_append_3fe6f_r4) ++ (ix_wsJ5_append_3fe6f_r5))))) ++ (ix_wsJ40))
set_option maxRecDepth 20000 in
theorem tie_wsJ5_append_3fe6f : wsJ5_append_3fe6f = tk ix_wsJ5_append_3fe6f := tk_co rfl (tk_ap (tk_ap (tie_wsJ5_append_3fe6f_r1) (tk_ap (tie_wsJ5_append_3fe6f_r2) (tk_ap (tie_wsJ5_append_3fe6f_r3) (tk_ap (tie_wsJ5_append_3fe6f_r4) (tie_wsJ5_append_3fe6f_r5))))) (tie_wsJ40))
abbrev ix_wsJ1_canEncode_fc78d : List Nat := 559 :: (([] : List Nat))
set_option maxRecDepth 20000 in
theorem tie_wsJ1_canEncode_fc78d : wsJ1_canEncode_fc78d = tk ix_wsJ1_canEncode_fc78d := tk_co rfl (rfl)
abbrev ix_wsJ2_putCharSB_b72d1 : List Nat := 594 :: [595, 596, 105, 597, 574, 575, 576, 598, 599, 579, 600, 581, 601, 602, 584, 603, 586, 587, 588, 589, 590, 591]
set_option maxRecDepth 20000 in
theorem tie_wsJ2_putCharSB_b72d1 : wsJ2_putCharSB_b72d1 = tk ix_wsJ2_putCharSB_b72d1 := tk_co rfl (rfl)
abbrev ix_wsJ0_init_81219_r1 : List Nat := [627, 628, 579, 629, 630, 10, 11, 631, 632, 633, 634, 635, 636, 637, 638, 96, 639, 101, 640, 504, 641, 642, 500, 35]
set_option maxRecDepth 20000 in
theorem tie_wsJ0_init_81219_r1 : wsJ0_init_81219_r1 = tk ix_wsJ0_init_81219_r1 := rfl
abbrev ix_wsJ0_init_81219_r2 : List Nat := [502, 503, 505, 506, 507, 508, 643, 552, 553, 554, 555, 99, 102, 644, 645, 539, 646, 541, 542, 543, 544, 545, 546, 647]
set_option maxRecDepth 20000 in
theorem tie_wsJ0_init_81219_r2 : wsJ0_init_81219_r2 = tk ix_wsJ0_init_81219_r2 := rfl
abbrev ix_wsJ0_init_81219_r3 : List Nat := [648, 649, 100, 547, 548, 437, 549, 550, 175, 176, 177, 650, 651, 652, 653, 654, 105, 655, 656, 657, 658, 571, 572, 573]
set_option maxRecDepth 20000 in
theorem tie_wsJ0_init_81219_r3 : wsJ0_init_81219_r3 = tk ix_wsJ0_init_81219_r3 := rfl
abbrev ix_wsJ0_init_81219_r4 : List Nat := [574, 575, 576, 577, 578, 580, 581, 582, 583, 584, 585, 659, 660, 661, 589, 590, 591, 107, 108, 109, 110, 662, 663, 664]
set_option maxRecDepth 20000 in
theorem tie_wsJ0_init_81219_r4 : wsJ0_init_81219_r4 = tk ix_wsJ0_init_81219_r4 := rfl
abbrev ix_wsJ0_init_81219_r5 : List Nat := [665]
set_option maxRecDepth 20000 in
theorem tie_wsJ0_init_81219_r5 : wsJ0_init_81219_r5 = tk ix_wsJ0_init_81219_r5 := rfl
abbrev ix_wsJ0_init_81219 : List Nat := 626 :: ((((ix_wsJ0_init_81219_r1) ++ ((ix_wsJ0_init_81219_r2) ++ ((ix_wsJ0_init_81219_r3) ++ ((ix_wsJ0_init_81219_r4) ++ (ix_wsJ0_init_81219_r5))))) ++ (ix_wsJ00)) ++ (ix_wsJ40))
set_option maxRecDepth 20000 in
theorem tie_wsJ0_init_81219 : wsJ0_init_81219 = tk ix_wsJ0_init_81219 := tk_co rfl (tk_ap (tk_ap (tk_ap (tie_wsJ0_init_81219_r1) (tk_ap (tie_wsJ0_init_81219_r2) (tk_ap (tie_wsJ0_init_81219_r3) (tk_ap (tie_wsJ0_init_81219_r4) (tie_wsJ0_init_81219_r5))))) (tie_wsJ00)) (tie_wsJ40))
abbrev ix_wsJ0_init_db425_r1 : List Nat := [630, 10, 11, 631, 632, 633, 634, 635, 636, 637, 638, 96, 639, 101, 640, 504, 641, 642, 500, 35, 502, 503, 505, 506]
set_option maxRecDepth 20000 in
theorem tie_wsJ0_init_db425_r1 : wsJ0_init_db425_r1 = tk ix_wsJ0_init_db425_r1 := rfl
abbrev ix_wsJ0_init_db425_r2 : List Nat := [507, 508, 643, 552, 553, 554, 555, 99, 102, 644, 645, 539, 646, 541, 542, 543, 544, 545, 546, 647, 648, 649, 100, 547]
set_option maxRecDepth 20000 in
theorem tie_wsJ0_init_db425_r2 : wsJ0_init_db425_r2 = tk ix_wsJ0_init_db425_r2 := rfl
abbrev ix_wsJ0_init_db425_r3 : List Nat := [548, 437, 549, 550, 175, 176, 177, 650, 651, 652, 653, 654, 105, 655, 656, 657, 658, 571, 572, 573, 574, 575, 576, 577]
set_option maxRecDepth 20000 in
theorem tie_wsJ0_init_db425_r3 : wsJ0_init_db425_r3 = tk ix_wsJ0_init_db425_r3 := rfl
abbrev ix_wsJ0_init_db425_r4 : List Nat := [578, 579, 580, 581, 582, 583, 584, 585, 659, 660, 661, 589, 590, 591, 107, 108, 109, 110, 662, 663, 664, 665]
set_option maxRecDepth 20000 in
theorem tie_wsJ0_init_db425_r4 : wsJ0_init_db425_r4 = tk ix_wsJ0_init_db425_r4 := rfl
abbrev ix_wsJ0_init_db425 : List Nat := 629 :: ((((ix_wsJ0_init_db425_r1) ++ ((ix_wsJ0_init_db425_r2) ++ ((ix_wsJ0_init_db425_r3) ++ (ix_wsJ0_init_db425_r4)))) ++ (ix_wsJ00)) ++ (ix_wsJ40))
set_option maxRecDepth 20000 in
theorem tie_wsJ0_init_db425 : wsJ0_init_db425 = tk ix_wsJ0_init_db425 := tk_co rfl (tk_ap (tk_ap (tk_ap (tie_wsJ0_init_db425_r1) (tk_ap (tie_wsJ0_init_db425_r2) (tk_ap (tie_wsJ0_init_db425_r3) (tie_wsJ0_init_db425_r4)))) (tie_wsJ00)) (tie_wsJ40))
abbrev ix_wsJ0_coder_7d493 : List Nat := 712 :: (([633, 631]) ++ (ix_wsJ00))
set_option maxRecDepth 20000 in
theorem tie_wsJ0_coder_7d493 : wsJ0_coder_7d493 = tk ix_wsJ0_coder_7d493 := tk_co rfl (tk_ap (rfl) (tie_wsJ00))
abbrev ix_wsJ0_isLatin1_aae02 : List Nat := 720 :: (([633, 631]) ++ (ix_wsJ00))
set_option maxRecDepth 20000 in
theorem tie_wsJ0_isLatin1_aae02 : wsJ0_isLatin1_aae02 = tk ix_wsJ0_isLatin1_aae02 := tk_co rfl (tk_ap (rfl) (tie_wsJ00))
abbrev ix_wsJ1_charAt_3b067 : List Nat := 723 :: [724, 599, 579, 600, 581, 601, 602, 584, 603]
set_option maxRecDepth 20000 in
theorem tie_wsJ1_charAt_3b067 : wsJ1_charAt_3b067 = tk ix_wsJ1_charAt_3b067 := tk_co rfl (rfl)
abbrev ix_wsJ2_charAt_3b067 : List Nat := 727 :: [595, 596, 105, 597, 574, 575, 576, 598, 599, 579, 600, 581, 601, 602, 584, 603, 659, 660, 661, 589, 590, 591]
set_option maxRecDepth 20000 in
theorem tie_wsJ2_charAt_3b067 : wsJ2_charAt_3b067 = tk ix_wsJ2_charAt_3b067 := tk_co rfl (rfl)
abbrev ix_wsJ5_getValue_6d5f1 : List Nat := 639 :: (([101]) ++ (ix_wsJ40))
set_option maxRecDepth 20000 in
theorem tie_wsJ5_getValue_6d5f1 : wsJ5_getValue_6d5f1 = tk ix_wsJ5_getValue_6d5f1 := tk_co rfl (tk_ap (rfl) (tie_wsJ40))
abbrev ix_wsJ7_copyOfRange_39247 : List Nat := 646 :: [541, 542, 543, 544, 545, 546, 647, 648, 539, 649, 100, 547, 548, 437, 549, 550, 175, 176, 177, 650, 651, 652]
set_option maxRecDepth 20000 in
theorem tie_wsJ7_copyOfRange_39247 : wsJ7_copyOfRange_39247 = tk ix_wsJ7_copyOfRange_39247 := tk_co rfl (rfl)
abbrev ix_wsJ2_compress_39247_r1 : List Nat := [100, 656, 657, 105, 658, 571, 572, 573, 574, 575, 576, 577, 578, 579, 580, 581, 582, 583, 584, 585, 659, 660, 661, 589]
set_option maxRecDepth 20000 in
theorem tie_wsJ2_compress_39247_r1 : wsJ2_compress_39247_r1 = tk ix_wsJ2_compress_39247_r1 := rfl
abbrev ix_wsJ2_compress_39247_r2 : List Nat := [590, 591, 107, 108, 109, 110, 662, 645, 539, 646, 541, 542, 543, 544, 545, 546, 647, 648, 649, 547, 548, 437, 549, 550]
set_option maxRecDepth 20000 in
theorem tie_wsJ2_compress_39247_r2 : wsJ2_compress_39247_r2 = tk ix_wsJ2_compress_39247_r2 := rfl
abbrev ix_wsJ2_compress_39247_r3 : List Nat := [175, 176, 177, 650, 651, 652]
set_option maxRecDepth 20000 in
theorem tie_wsJ2_compress_39247_r3 : wsJ2_compress_39247_r3 = tk ix_wsJ2_compress_39247_r3 := rfl
abbrev ix_wsJ2_compress_39247 : List Nat := 655 :: ((ix_wsJ2_compress_39247_r1) ++ ((ix_wsJ2_compress_39247_r2) ++ (ix_wsJ2_compress_39247_r3)))
set_option maxRecDepth 20000 in
theorem tie_wsJ2_compress_39247 : wsJ2_compress_39247 = tk ix_wsJ2_compress_39247 := tk_co rfl (tk_ap (tie_wsJ2_compress_39247_r1) (tk_ap (tie_wsJ2_compress_39247_r2) (tie_wsJ2_compress_39247_r3)))
abbrev ix_wsJ2_coderFromArrayLen_85cad : List Nat := 665 :: (([] : List Nat))
set_option maxRecDepth 20000 in
theorem tie_wsJ2_coderFromArrayLen_85cad : wsJ2_coderFromArrayLen_85cad = tk ix_wsJ2_coderFromArrayLen_85cad := tk_co rfl (rfl)
abbrev ix_wsJ0_checkIndex_df160 : List Nat := 600 :: [581, 601, 602, 584, 603]
set_option maxRecDepth 20000 in
theorem tie_wsJ0_checkIndex_df160 : wsJ0_checkIndex_df160 = tk ix_wsJ0_checkIndex_df160 := tk_co rfl (rfl)
abbrev ix_wsJ3_checkIndex_8e157 : List Nat := 603 :: (([] : List Nat))
set_option maxRecDepth 20000 in
theorem tie_wsJ3_checkIndex_8e157 : wsJ3_checkIndex_8e157 = tk ix_wsJ3_checkIndex_8e157 := tk_co rfl (rfl)
abbrev ix_wsJ0_checkBoundsOffCount_cabcc : List Nat := 580 :: [581, 582, 583, 584, 585]
set_option maxRecDepth 20000 in
theorem tie_wsJ0_checkBoundsOffCount_cabcc : wsJ0_checkBoundsOffCount_cabcc = tk ix_wsJ0_checkBoundsOffCount_cabcc := tk_co rfl (rfl)
abbrev ix_wsJ3_checkFromIndexSize_8c36e : List Nat := 585 :: (([] : List Nat))
set_option maxRecDepth 20000 in
theorem tie_wsJ3_checkFromIndexSize_8c36e : wsJ3_checkFromIndexSize_8c36e = tk ix_wsJ3_checkFromIndexSize_8c36e := tk_co rfl (rfl)
abbrev ix_wsJ5_length_8abf5 : List Nat := 507 :: (([508]) ++ (ix_wsJ40))
set_option maxRecDepth 20000 in
theorem tie_wsJ5_length_8abf5 : wsJ5_length_8abf5 = tk ix_wsJ5_length_8abf5 := tk_co rfl (tk_ap (rfl) (tie_wsJ40))
abbrev ix_wsJ7_fill_eb02e : List Nat := 680 :: [681, 682, 539, 683]
set_option maxRecDepth 20000 in
theorem tie_wsJ7_fill_eb02e : wsJ7_fill_eb02e = tk ix_wsJ7_fill_eb02e := tk_co rfl (rfl)
abbrev ix_wsJ2_inflate_0e8fd : List Nat := 570 :: [571, 572, 105, 573, 574, 575, 576, 577, 578, 579, 580, 581, 582, 583, 584, 585, 586, 587, 588, 589, 590, 591]
set_option maxRecDepth 20000 in
theorem tie_wsJ2_inflate_0e8fd : wsJ2_inflate_0e8fd = tk ix_wsJ2_inflate_0e8fd := tk_co rfl (rfl)
abbrev ix_wsJ2_newBytesLength_0f7a4 : List Nat := 109 :: [110]
set_option maxRecDepth 20000 in
theorem tie_wsJ2_newBytesLength_0f7a4 : wsJ2_newBytesLength_0f7a4 = tk ix_wsJ2_newBytesLength_0f7a4 := tk_co rfl (rfl)
abbrev ix_wsJ2_putChar_b72d1 : List Nat := 588 :: [589, 590, 591, 574, 575, 105, 576]
set_option maxRecDepth 20000 in
theorem tie_wsJ2_putChar_b72d1 : wsJ2_putChar_b72d1 = tk ix_wsJ2_putChar_b72d1 := tk_co rfl (rfl)
abbrev ix_wsJ2_length_9d52b : List Nat := 576 :: (([] : List Nat))
set_option maxRecDepth 20000 in
theorem tie_wsJ2_length_9d52b : wsJ2_length_9d52b = tk ix_wsJ2_length_9d52b := tk_co rfl (rfl)
abbrev ix_wsJ2_getChar_3b067 : List Nat := 661 :: [589, 590, 591, 574, 575, 105, 576]
set_option maxRecDepth 20000 in
theorem tie_wsJ2_getChar_3b067 : wsJ2_getChar_3b067 = tk ix_wsJ2_getChar_3b067 := tk_co rfl (rfl)
abbrev ix_wsJ2_compress_5af95 : List Nat := 658 :: [571, 572, 105, 573, 574, 575, 576, 577, 578, 579, 580, 581, 582, 583, 584, 585, 659, 660, 661, 589, 590, 591]
set_option maxRecDepth 20000 in
theorem tie_wsJ2_compress_5af95 : wsJ2_compress_5af95 = tk ix_wsJ2_compress_5af95 := tk_co rfl (rfl)
abbrev ix_wsJ2_checkBoundsOffCount_d044e : List Nat := 573 :: [574, 575, 105, 576, 577, 578, 579, 580, 581, 582, 583, 584, 585]
set_option maxRecDepth 20000 in
theorem tie_wsJ2_checkBoundsOffCount_d044e : wsJ2_checkBoundsOffCount_d044e = tk ix_wsJ2_checkBoundsOffCount_d044e := tk_co rfl (rfl)
abbrev ix_wsJ2_checkIndex_2214a : List Nat := 597 :: [574, 575, 105, 576, 598, 599, 579, 600, 581, 601, 602, 584, 603]
set_option maxRecDepth 20000 in
theorem tie_wsJ2_checkIndex_2214a : wsJ2_checkIndex_2214a = tk ix_wsJ2_checkIndex_2214a := tk_co rfl (rfl)
abbrev ix_wsJ7_rangeCheck_23922 : List Nat := 683 :: (([] : List Nat))
set_option maxRecDepth 20000 in
theorem tie_wsJ7_rangeCheck_23922 : wsJ7_rangeCheck_23922 = tk ix_wsJ7_rangeCheck_23922 := tk_co rfl (rfl)
abbrev ix_wsJ7_copyOfRangeByte_39247 : List Nat := 649 :: [100, 547, 548, 437, 549, 550, 175, 176, 177, 650, 651, 539, 652]
set_option maxRecDepth 20000 in
theorem tie_wsJ7_copyOfRangeByte_39247 : wsJ7_copyOfRangeByte_39247 = tk ix_wsJ7_copyOfRangeByte_39247 := tk_co rfl (rfl)
abbrev ix_wsJ7_checkLength_df160 : List Nat := 652 :: (([] : List Nat))
set_option maxRecDepth 20000 in
theorem tie_wsJ7_checkLength_df160 : wsJ7_checkLength_df160 = tk ix_wsJ7_checkLength_df160 := tk_co rfl (rfl)
abbrev ix_wsJ8_hugeLength_7cf53 : List Nat := 536 :: [533]
set_option maxRecDepth 20000 in
theorem tie_wsJ8_hugeLength_7cf53 : wsJ8_hugeLength_7cf53 = tk ix_wsJ8_hugeLength_7cf53 := tk_co rfl (rfl)
abbrev ix_wsL_law_r1 : List Nat := [0, 1, 2, 3, 4, 5, 6, 7, 8, 9, 10, 11, 12, 13, 14, 15, 16, 17, 18, 19, 20, 21, 22, 23]
set_option maxRecDepth 20000 in
theorem tie_wsL_law_r1 : wsL_law_r1 = tk ix_wsL_law_r1 := rfl
abbrev ix_wsL_law_r2 : List Nat := [24, 25, 26, 27, 28, 29, 30, 31, 32, 33, 34, 35, 36, 37, 38, 39, 40, 41, 42, 43, 44, 45, 46, 47]
set_option maxRecDepth 20000 in
theorem tie_wsL_law_r2 : wsL_law_r2 = tk ix_wsL_law_r2 := rfl
abbrev ix_wsL_law_r3 : List Nat := [48, 49, 50, 51, 52, 53, 54, 55, 56, 57, 58, 59, 60, 61, 62, 63, 64, 65, 66, 67, 68, 69, 70, 71]
set_option maxRecDepth 20000 in
theorem tie_wsL_law_r3 : wsL_law_r3 = tk ix_wsL_law_r3 := rfl
abbrev ix_wsL_law_r4 : List Nat := [72, 73, 74, 75, 76, 77, 78, 79, 80, 81, 82, 83, 84, 85, 86, 87, 88, 89, 90, 91, 92, 93, 94, 95]
set_option maxRecDepth 20000 in
theorem tie_wsL_law_r4 : wsL_law_r4 = tk ix_wsL_law_r4 := rfl
abbrev ix_wsL_law_r5 : List Nat := [96, 97, 98, 99, 100, 101, 102, 103, 104, 105, 106, 107, 108, 109, 110, 111, 112, 113, 114, 115, 116, 117, 118, 119]
set_option maxRecDepth 20000 in
theorem tie_wsL_law_r5 : wsL_law_r5 = tk ix_wsL_law_r5 := rfl
abbrev ix_wsL_law_r6 : List Nat := [120, 121, 122, 123, 124, 125, 126, 127, 128, 129, 130, 131, 132, 133, 134, 135, 136, 137, 138, 139, 140, 141, 142, 143]
set_option maxRecDepth 20000 in
theorem tie_wsL_law_r6 : wsL_law_r6 = tk ix_wsL_law_r6 := rfl
abbrev ix_wsL_law_r7 : List Nat := [144, 145, 146, 147, 148, 149, 150, 151, 152, 153, 154, 155, 156, 157, 158, 159, 160, 161, 162, 163, 164, 165, 166, 167]
set_option maxRecDepth 20000 in
theorem tie_wsL_law_r7 : wsL_law_r7 = tk ix_wsL_law_r7 := rfl
abbrev ix_wsL_law_r8 : List Nat := [168, 169, 170, 171, 172, 173, 174, 175, 176, 177, 178, 179, 180, 181, 182, 183, 184, 185, 186, 187, 188, 189, 190, 191]
set_option maxRecDepth 20000 in
theorem tie_wsL_law_r8 : wsL_law_r8 = tk ix_wsL_law_r8 := rfl
abbrev ix_wsL_law_r9 : List Nat := [192, 193, 194, 195, 196, 197, 198, 199, 200, 201, 202, 203, 204, 205, 206, 207, 208, 209, 210, 211, 212, 213, 214, 215]
set_option maxRecDepth 20000 in
theorem tie_wsL_law_r9 : wsL_law_r9 = tk ix_wsL_law_r9 := rfl
abbrev ix_wsL_law_r10 : List Nat := [216, 217, 218, 219, 220, 221, 222, 223, 224, 225, 226, 227, 228, 229, 230, 231, 232, 233, 234, 235, 236, 237, 238, 239]
set_option maxRecDepth 20000 in
theorem tie_wsL_law_r10 : wsL_law_r10 = tk ix_wsL_law_r10 := rfl
abbrev ix_wsL_law_r11 : List Nat := [240, 241, 242, 243, 244, 245, 246, 247, 248, 249, 250, 251, 252, 253, 254, 255, 256, 257, 258, 259, 260, 261, 262, 263]
set_option maxRecDepth 20000 in
theorem tie_wsL_law_r11 : wsL_law_r11 = tk ix_wsL_law_r11 := rfl
abbrev ix_wsL_law_r12 : List Nat := [264, 265, 266, 267, 268, 269, 270, 271, 272, 273, 274, 275, 276, 277, 278, 279, 280, 281, 282, 283, 284, 285, 286, 287]
set_option maxRecDepth 20000 in
theorem tie_wsL_law_r12 : wsL_law_r12 = tk ix_wsL_law_r12 := rfl
abbrev ix_wsL_law_r13 : List Nat := [288, 289, 290, 291, 292, 293, 294, 295, 296, 297, 298, 299, 300, 301, 302, 303, 304, 305, 306, 307, 308, 309, 310, 311]
set_option maxRecDepth 20000 in
theorem tie_wsL_law_r13 : wsL_law_r13 = tk ix_wsL_law_r13 := rfl
abbrev ix_wsL_law_r14 : List Nat := [312, 313, 314, 315, 316, 317, 318, 319, 320, 321, 322, 323, 324, 325, 326, 327, 328, 329, 330, 331, 332, 333, 334, 335]
set_option maxRecDepth 20000 in
theorem tie_wsL_law_r14 : wsL_law_r14 = tk ix_wsL_law_r14 := rfl
abbrev ix_wsL_law_r15 : List Nat := [336, 337, 338, 339, 340, 341, 342, 343, 344, 345, 346, 347, 348, 349, 350, 351, 352, 353, 354, 355, 356, 357, 358, 359]
set_option maxRecDepth 20000 in
theorem tie_wsL_law_r15 : wsL_law_r15 = tk ix_wsL_law_r15 := rfl
abbrev ix_wsL_law_r16 : List Nat := [360, 361, 362, 363, 364, 365, 366, 367, 368, 369, 370, 371, 372, 373, 374, 375, 376, 377, 378, 379, 380, 381, 382, 383]
set_option maxRecDepth 20000 in
theorem tie_wsL_law_r16 : wsL_law_r16 = tk ix_wsL_law_r16 := rfl
abbrev ix_wsL_law_r17 : List Nat := [384, 385, 386, 387, 388, 389, 390, 391, 392, 393, 394, 395, 396, 397, 398, 399, 400, 401, 402, 403, 404, 405, 406, 407]
set_option maxRecDepth 20000 in
theorem tie_wsL_law_r17 : wsL_law_r17 = tk ix_wsL_law_r17 := rfl
abbrev ix_wsL_law_r18 : List Nat := [408, 409, 410, 411, 412, 413, 414, 415, 416, 417, 418, 419, 420, 421, 422, 423, 424, 425, 426, 427, 428, 429, 430, 431]
set_option maxRecDepth 20000 in
theorem tie_wsL_law_r18 : wsL_law_r18 = tk ix_wsL_law_r18 := rfl
abbrev ix_wsL_law_r19 : List Nat := [432, 433, 434, 435, 436, 437, 438, 439, 440, 441, 442, 443, 444, 445, 446, 447, 448, 449, 450, 451, 452, 453, 454, 455]
set_option maxRecDepth 20000 in
theorem tie_wsL_law_r19 : wsL_law_r19 = tk ix_wsL_law_r19 := rfl
abbrev ix_wsL_law_r20 : List Nat := [456, 457, 458, 459, 460, 461, 462, 463, 464, 465, 466, 467, 468, 469, 470, 471, 472, 473, 474, 475, 476, 477, 478, 479]
set_option maxRecDepth 20000 in
theorem tie_wsL_law_r20 : wsL_law_r20 = tk ix_wsL_law_r20 := rfl
abbrev ix_wsL_law_r21 : List Nat := [480, 481, 482, 483, 484, 485, 486, 487, 488, 489, 490, 491, 492, 493, 494, 495, 496, 497, 498, 499, 500, 501, 502, 503]
set_option maxRecDepth 20000 in
theorem tie_wsL_law_r21 : wsL_law_r21 = tk ix_wsL_law_r21 := rfl
abbrev ix_wsL_law_r22 : List Nat := [504, 505, 506, 507, 508, 509, 510, 511, 512, 513, 514, 515, 516, 517, 518, 519, 520, 521, 522, 523, 524, 525, 526, 527]
set_option maxRecDepth 20000 in
theorem tie_wsL_law_r22 : wsL_law_r22 = tk ix_wsL_law_r22 := rfl
abbrev ix_wsL_law_r23 : List Nat := [528, 529, 530, 531, 532, 533, 534, 535, 536, 537, 538, 539, 540, 541, 542, 543, 544, 545, 546, 547, 548, 549, 550, 551]
set_option maxRecDepth 20000 in
theorem tie_wsL_law_r23 : wsL_law_r23 = tk ix_wsL_law_r23 := rfl
abbrev ix_wsL_law_r24 : List Nat := [552, 553, 554, 555, 556, 557, 558, 559, 560, 561, 562, 563, 564, 565, 566, 567, 568, 569, 570, 571, 572, 573, 574, 575]
set_option maxRecDepth 20000 in
theorem tie_wsL_law_r24 : wsL_law_r24 = tk ix_wsL_law_r24 := rfl
abbrev ix_wsL_law_r25 : List Nat := [576, 577, 578, 579, 580, 581, 582, 583, 584, 585, 586, 587, 588, 589, 590, 591, 592, 593, 594, 595, 596, 597, 598, 599]
set_option maxRecDepth 20000 in
theorem tie_wsL_law_r25 : wsL_law_r25 = tk ix_wsL_law_r25 := rfl
abbrev ix_wsL_law_r26 : List Nat := [600, 601, 602, 603, 604, 605, 606, 607, 608, 609, 610, 611, 612, 613, 614, 615, 616, 617, 618, 619, 620, 621, 622, 623]
set_option maxRecDepth 20000 in
theorem tie_wsL_law_r26 : wsL_law_r26 = tk ix_wsL_law_r26 := rfl
abbrev ix_wsL_law_r27 : List Nat := [624, 625, 626, 627, 628, 629, 630, 631, 632, 633, 634, 635, 636, 637, 638, 639, 640, 641, 642, 643, 644, 645, 646, 647]
set_option maxRecDepth 20000 in
theorem tie_wsL_law_r27 : wsL_law_r27 = tk ix_wsL_law_r27 := rfl
abbrev ix_wsL_law_r28 : List Nat := [648, 649, 650, 651, 652, 653, 654, 655, 656, 657, 658, 659, 660, 661, 662, 663, 664, 665, 666, 667, 668, 669, 670, 671]
set_option maxRecDepth 20000 in
theorem tie_wsL_law_r28 : wsL_law_r28 = tk ix_wsL_law_r28 := rfl
abbrev ix_wsL_law_r29 : List Nat := [672, 673, 674, 675, 676, 677, 678, 679, 680, 681, 682, 683, 684, 685, 686, 687, 688, 689, 690, 691, 692, 693, 694, 695]
set_option maxRecDepth 20000 in
theorem tie_wsL_law_r29 : wsL_law_r29 = tk ix_wsL_law_r29 := rfl
abbrev ix_wsL_law_r30 : List Nat := [696, 697, 698, 699, 700, 701, 702, 703, 704, 705, 706, 707, 708, 709, 710, 711, 712, 713, 714, 715, 716, 717, 718, 719]
set_option maxRecDepth 20000 in
theorem tie_wsL_law_r30 : wsL_law_r30 = tk ix_wsL_law_r30 := rfl
abbrev ix_wsL_law_r31 : List Nat := [720, 721, 722, 723, 724, 725, 726, 727, 728, 729, 730, 731, 732, 733, 734, 735, 736, 737, 738, 739, 740, 741, 742, 743]
set_option maxRecDepth 20000 in
theorem tie_wsL_law_r31 : wsL_law_r31 = tk ix_wsL_law_r31 := rfl
abbrev ix_wsL_law_r32 : List Nat := [744, 745, 746, 747, 748, 749, 750, 751, 752, 753, 754, 755, 756, 757, 758, 759, 760, 761, 762, 763, 764, 765, 766, 767]
set_option maxRecDepth 20000 in
theorem tie_wsL_law_r32 : wsL_law_r32 = tk ix_wsL_law_r32 := rfl
abbrev ix_wsL_law_r33 : List Nat := [768, 769, 770, 771, 772, 773, 774, 775, 776, 777, 778, 779, 780, 781, 782, 783, 784, 785, 786, 787, 788, 789, 790, 791]
set_option maxRecDepth 20000 in
theorem tie_wsL_law_r33 : wsL_law_r33 = tk ix_wsL_law_r33 := rfl
abbrev ix_wsL_law_r34 : List Nat := [792, 793, 794, 795, 796, 797, 798, 799, 800, 801, 802, 803, 804, 805, 806, 807, 808, 809, 810, 811, 812, 813, 814, 815]
set_option maxRecDepth 20000 in
theorem tie_wsL_law_r34 : wsL_law_r34 = tk ix_wsL_law_r34 := rfl
abbrev ix_wsL_law_r35 : List Nat := [816, 817, 818, 819, 820, 821, 822, 823, 824, 825, 826, 827, 828, 829, 830, 831, 832, 833, 834, 835, 836, 837, 838, 839]
set_option maxRecDepth 20000 in
theorem tie_wsL_law_r35 : wsL_law_r35 = tk ix_wsL_law_r35 := rfl
abbrev ix_wsL_law_r36 : List Nat := [840, 841, 842, 843, 844, 845, 846, 847, 848, 849, 850, 851, 852, 853, 854, 855, 856, 857, 858, 859, 860, 861, 862, 863]
set_option maxRecDepth 20000 in
theorem tie_wsL_law_r36 : wsL_law_r36 = tk ix_wsL_law_r36 := rfl
abbrev ix_wsL_law_r37 : List Nat := [864, 865, 866, 867, 868, 869, 870, 871, 872, 873, 874, 875, 876, 877, 878, 879, 880, 881, 882, 883, 884, 885, 886, 887]
set_option maxRecDepth 20000 in
theorem tie_wsL_law_r37 : wsL_law_r37 = tk ix_wsL_law_r37 := rfl
abbrev ix_wsL_law_r38 : List Nat := [888, 889, 890, 891, 892, 893, 894, 895, 896, 897, 898, 899, 900, 901, 902, 903, 904, 905, 906, 907, 908, 909, 910, 911]
set_option maxRecDepth 20000 in
theorem tie_wsL_law_r38 : wsL_law_r38 = tk ix_wsL_law_r38 := rfl
abbrev ix_wsL_law_r39 : List Nat := [912, 913, 914, 915, 916, 917, 918, 919, 920, 921, 922, 923, 924, 925, 926, 927, 928, 929, 930, 931, 932, 933, 934, 935]
set_option maxRecDepth 20000 in
theorem tie_wsL_law_r39 : wsL_law_r39 = tk ix_wsL_law_r39 := rfl
abbrev ix_wsL_law_r40 : List Nat := [936, 937, 938, 939, 940, 941, 942, 943, 944, 945, 946, 947, 948, 949, 950, 951, 952, 953, 954, 955, 956, 957, 958, 959]
set_option maxRecDepth 20000 in
theorem tie_wsL_law_r40 : wsL_law_r40 = tk ix_wsL_law_r40 := rfl
abbrev ix_wsL_law_r41 : List Nat := [960, 961, 962, 963, 964, 965, 966, 967, 968, 969, 970, 971, 972, 973, 974, 975, 976, 977, 978, 979, 980, 981, 982, 983]
set_option maxRecDepth 20000 in
theorem tie_wsL_law_r41 : wsL_law_r41 = tk ix_wsL_law_r41 := rfl
abbrev ix_wsL_law_r42 : List Nat := [984, 985, 986, 987, 988, 989, 990, 991, 992, 993, 994, 995, 996, 997, 998, 999, 1000, 1001, 1002, 1003, 1004, 1005, 1006, 1007]
set_option maxRecDepth 20000 in
theorem tie_wsL_law_r42 : wsL_law_r42 = tk ix_wsL_law_r42 := rfl
abbrev ix_wsL_law_r43 : List Nat := [1008, 1009, 1010, 1011, 1012, 1013, 1014, 1015, 1016, 1017, 1018, 1019, 1020, 1021, 1022, 1023, 1024, 1025, 1026, 1027, 1028, 1029, 1030, 1031]
set_option maxRecDepth 20000 in
theorem tie_wsL_law_r43 : wsL_law_r43 = tk ix_wsL_law_r43 := rfl
abbrev ix_wsL_law_r44 : List Nat := [1032, 1033, 1034, 1035, 1036, 1037, 1038, 1039, 1040, 1041, 1042, 1043, 1044, 1045, 1046, 1047, 1048, 1049, 1050, 1051, 1052, 1053, 1054, 1055]
set_option maxRecDepth 20000 in
theorem tie_wsL_law_r44 : wsL_law_r44 = tk ix_wsL_law_r44 := rfl
abbrev ix_wsL_law_r45 : List Nat := [1056, 1057, 1058, 1059, 1060, 1061, 1062, 1063, 1064, 1065, 1066, 1067, 1068, 1069, 1070, 1071, 1072, 1073, 1074, 1075, 1076, 1077, 1078, 1079]
set_option maxRecDepth 20000 in
theorem tie_wsL_law_r45 : wsL_law_r45 = tk ix_wsL_law_r45 := rfl
abbrev ix_wsL_law_r46 : List Nat := [1080, 1081, 1082, 1083, 1084, 1085, 1086, 1087, 1088, 1089, 1090, 1091, 1092, 1093, 1094, 1095, 1096, 1097, 1098, 1099, 1100, 1101, 1102, 1103]
set_option maxRecDepth 20000 in
theorem tie_wsL_law_r46 : wsL_law_r46 = tk ix_wsL_law_r46 := rfl
abbrev ix_wsL_law_r47 : List Nat := [1104, 1105, 1106, 1107, 1108, 1109, 1110, 1111, 1112, 1113, 1114, 1115, 1116, 1117, 1118, 1119, 1120, 1121, 1122, 1123, 1124, 1125, 1126, 1127]
set_option maxRecDepth 20000 in
theorem tie_wsL_law_r47 : wsL_law_r47 = tk ix_wsL_law_r47 := rfl
abbrev ix_wsL_law_r48 : List Nat := [1128, 1129, 1130, 1131, 1132, 1133, 1134, 1135, 1136, 1137, 1138, 1139, 1140, 1141, 1142, 1143, 1144, 1145, 1146, 1147, 1148, 1149, 1150, 1151]
set_option maxRecDepth 20000 in
theorem tie_wsL_law_r48 : wsL_law_r48 = tk ix_wsL_law_r48 := rfl
abbrev ix_wsL_law_r49 : List Nat := [1152, 1153, 1154, 1155, 1156, 1157, 1158, 1159, 1160, 1161, 1162, 1163, 1164, 1165, 1166, 1167, 1168, 1169, 1170, 1171, 1172, 1173, 1174, 1175]
set_option maxRecDepth 20000 in
theorem tie_wsL_law_r49 : wsL_law_r49 = tk ix_wsL_law_r49 := rfl
abbrev ix_wsL_law_r50 : List Nat := [1176, 1177, 1178, 1179, 1180, 1181, 1182, 1183, 1184, 1185, 1186, 1187, 1188, 1189, 1190, 1191, 1192, 1193, 1194, 1195, 1196, 1197, 1198, 1199]
set_option maxRecDepth 20000 in
theorem tie_wsL_law_r50 : wsL_law_r50 = tk ix_wsL_law_r50 := rfl
abbrev ix_wsL_law_r51 : List Nat := [1200, 1201, 1202, 1203, 1204, 1205, 1206, 1207, 1208, 1209, 1210, 1211, 1212, 1213, 1214, 1215, 1216, 1217, 1218, 1219, 1220, 1221, 1222, 1223]
set_option maxRecDepth 20000 in
theorem tie_wsL_law_r51 : wsL_law_r51 = tk ix_wsL_law_r51 := rfl
abbrev ix_wsL_law_r52 : List Nat := [1224, 1225, 1226, 1227, 1228, 1229, 1230, 1231, 1232, 1233, 1234, 1235, 1236, 1237, 1238, 1239, 1240, 1241, 1242, 1243, 1244, 1245, 1246, 1247]
set_option maxRecDepth 20000 in
theorem tie_wsL_law_r52 : wsL_law_r52 = tk ix_wsL_law_r52 := rfl
abbrev ix_wsL_law_r53 : List Nat := [1248, 1249, 1250, 1251, 1252, 1253, 1254, 1255, 1256, 1257, 1258, 1259, 1260, 1261, 1262, 1263, 1264, 1265, 1266, 1267, 1268, 1269, 1270, 1271]
set_option maxRecDepth 20000 in
theorem tie_wsL_law_r53 : wsL_law_r53 = tk ix_wsL_law_r53 := rfl
abbrev ix_wsL_law_r54 : List Nat := [1272, 1273, 1274, 1275, 1276, 1277, 1278, 1279, 1280, 1281, 1282, 1283, 1284, 1285, 1286, 1287, 1288, 1289, 1290, 1291, 1292, 1293, 1294, 1295]
set_option maxRecDepth 20000 in
theorem tie_wsL_law_r54 : wsL_law_r54 = tk ix_wsL_law_r54 := rfl
abbrev ix_wsL_law_r55 : List Nat := [1296, 1297, 1298, 1299, 1300, 1301, 1302, 1303, 1304, 1305, 1306, 1307, 1308, 1309, 1310, 1311, 1312, 1313, 1314, 1315, 1316, 1317, 1318, 1319]
set_option maxRecDepth 20000 in
theorem tie_wsL_law_r55 : wsL_law_r55 = tk ix_wsL_law_r55 := rfl
abbrev ix_wsL_law_r56 : List Nat := [1320, 1321, 1322, 1323, 1324, 1325, 1326, 1327, 1328, 1329, 1330, 1331, 1332, 1333, 1334, 1335, 1336, 1337, 1338, 1339, 1340, 1341, 1342, 1343]
set_option maxRecDepth 20000 in
theorem tie_wsL_law_r56 : wsL_law_r56 = tk ix_wsL_law_r56 := rfl
abbrev ix_wsL_law_r57 : List Nat := [1344, 1345, 1346, 1347, 1348, 1349, 1350, 1351, 1352, 1353, 1354, 1355, 1356, 1357, 1358, 1359, 1360, 1361, 1362, 1363]
set_option maxRecDepth 20000 in
theorem tie_wsL_law_r57 : wsL_law_r57 = tk ix_wsL_law_r57 := rfl
abbrev ix_wsL_law : List Nat := ((((((((((((((((ix_wsL_law_r1) ++ ((ix_wsL_law_r2) ++ ((ix_wsL_law_r3) ++ ((ix_wsL_law_r4) ++ ((ix_wsL_law_r5) ++ ((ix_wsL_law_r6) ++ ((ix_wsL_law_r7) ++ ((ix_wsL_law_r8) ++ ((ix_wsL_law_r9) ++ ((ix_wsL_law_r10) ++ ((ix_wsL_law_r11) ++ ((ix_wsL_law_r12) ++ ((ix_wsL_law_r13) ++ ((ix_wsL_law_r14) ++ ((ix_wsL_law_r15) ++ ((ix_wsL_law_r16) ++ ((ix_wsL_law_r17) ++ ((ix_wsL_law_r18) ++ ((ix_wsL_law_r19) ++ ((ix_wsL_law_r20) ++ ((ix_wsL_law_r21) ++ ((ix_wsL_law_r22) ++ ((ix_wsL_law_r23) ++ ((ix_wsL_law_r24) ++ ((ix_wsL_law_r25) ++ ((ix_wsL_law_r26) ++ ((ix_wsL_law_r27) ++ ((ix_wsL_law_r28) ++ ((ix_wsL_law_r29) ++ ((ix_wsL_law_r30) ++ ((ix_wsL_law_r31) ++ ((ix_wsL_law_r32) ++ ((ix_wsL_law_r33) ++ ((ix_wsL_law_r34) ++ ((ix_wsL_law_r35) ++ ((ix_wsL_law_r36) ++ ((ix_wsL_law_r37) ++ ((ix_wsL_law_r38) ++ ((ix_wsL_law_r39) ++ ((ix_wsL_law_r40) ++ ((ix_wsL_law_r41) ++ ((ix_wsL_law_r42) ++ ((ix_wsL_law_r43) ++ ((ix_wsL_law_r44) ++ ((ix_wsL_law_r45) ++ ((ix_wsL_law_r46) ++ ((ix_wsL_law_r47) ++ ((ix_wsL_law_r48) ++ ((ix_wsL_law_r49) ++ ((ix_wsL_law_r50) ++ ((ix_wsL_law_r51) ++ ((ix_wsL_law_r52) ++ ((ix_wsL_law_r53) ++ ((ix_wsL_law_r54) ++ ((ix_wsL_law_r55) ++ ((ix_wsL_law_r56) ++ (ix_wsL_law_r57))))))))))))))))))))))))))))))))))))))))))))))))))))))))) ++ (ix_wsX110)) ++ (ix_wsX120)) ++ (ix_wsX20)) ++ (ix_wsX60)) ++ (ix_wsX70)) ++ (ix_wsX80)) ++ (ix_wsX00)) ++ (ix_wsJ40)) ++ (ix_wsX30)) ++ (ix_wsX100)) ++ (ix_wsX50)) ++ (ix_wsJ00)) ++ (ix_wsX90)) ++ (ix_wsX10)) ++ (([] : List Nat))
set_option maxRecDepth 20000 in
theorem tie_wsL_law : wsL_law = tk ix_wsL_law := tk_ap (tk_ap (tk_ap (tk_ap (tk_ap (tk_ap (tk_ap (tk_ap (tk_ap (tk_ap (tk_ap (tk_ap (tk_ap (tk_ap (tk_ap (tk_ap (tie_wsL_law_r1) (tk_ap (tie_wsL_law_r2) (tk_ap (tie_wsL_law_r3) (tk_ap (tie_wsL_law_r4) (tk_ap (tie_wsL_law_r5) (tk_ap (tie_wsL_law_r6) (tk_ap (tie_wsL_law_r7) (tk_ap (tie_wsL_law_r8) (tk_ap (tie_wsL_law_r9) (tk_ap (tie_wsL_law_r10) (tk_ap (tie_wsL_law_r11) (tk_ap (tie_wsL_law_r12) (tk_ap (tie_wsL_law_r13) (tk_ap (tie_wsL_law_r14) (tk_ap (tie_wsL_law_r15) (tk_ap (tie_wsL_law_r16) (tk_ap (tie_wsL_law_r17) (tk_ap (tie_wsL_law_r18) (tk_ap (tie_wsL_law_r19) (tk_ap (tie_wsL_law_r20) (tk_ap (tie_wsL_law_r21) (tk_ap (tie_wsL_law_r22) (tk_ap (tie_wsL_law_r23) (tk_ap (tie_wsL_law_r24) (tk_ap (tie_wsL_law_r25) (tk_ap (tie_wsL_law_r26) (tk_ap (tie_wsL_law_r27) (tk_ap (tie_wsL_law_r28) (tk_ap (tie_wsL_law_r29) (tk_ap (tie_wsL_law_r30) (tk_ap (tie_wsL_law_r31) (tk_ap (tie_wsL_law_r32) (tk_ap (tie_wsL_law_r33) (tk_ap (tie_wsL_law_r34) (tk_ap (tie_wsL_law_r35) (tk_ap (tie_wsL_law_r36) (tk_ap (tie_wsL_law_r37) (tk_ap (tie_wsL_law_r38) (tk_ap (tie_wsL_law_r39) (tk_ap (tie_wsL_law_r40) (tk_ap (tie_wsL_law_r41) (tk_ap (tie_wsL_law_r42) (tk_ap (tie_wsL_law_r43) (tk_ap (tie_wsL_law_r44) (tk_ap (tie_wsL_law_r45) (tk_ap (tie_wsL_law_r46) (tk_ap (tie_wsL_law_r47) (tk_ap (tie_wsL_law_r48) (tk_ap (tie_wsL_law_r49) (tk_ap (tie_wsL_law_r50) (tk_ap (tie_wsL_law_r51) (tk_ap (tie_wsL_law_r52) (tk_ap (tie_wsL_law_r53) (tk_ap (tie_wsL_law_r54) (tk_ap (tie_wsL_law_r55) (tk_ap (tie_wsL_law_r56) (tie_wsL_law_r57))))))))))))))))))))))))))))))))))))))))))))))))))))))))) (tie_wsX110)) (tie_wsX120)) (tie_wsX20)) (tie_wsX60)) (tie_wsX70)) (tie_wsX80)) (tie_wsX00)) (tie_wsJ40)) (tie_wsX30)) (tie_wsX100)) (tie_wsX50)) (tie_wsJ00)) (tie_wsX90)) (tie_wsX10)) (rfl)
abbrev ix_wsX12_init_r1 : List Nat := [114, 10, 11, 44, 115, 116, 117, 118, 119, 72, 120, 121, 122, 123, 124, 125, 126, 127, 128, 129, 130, 131, 132, 133]
set_option maxRecDepth 20000 in
theorem tie_wsX12_init_r1 : wsX12_init_r1 = tk ix_wsX12_init_r1 := rfl
abbrev ix_wsX12_init_r2 : List Nat := [134, 135, 136, 137, 138, 139]
set_option maxRecDepth 20000 in
theorem tie_wsX12_init_r2 : wsX12_init_r2 = tk ix_wsX12_init_r2 := rfl
abbrev ix_wsX12_init : List Nat := 113 :: (((ix_wsX12_init_r1) ++ (ix_wsX12_init_r2)) ++ (ix_wsX120))
set_option maxRecDepth 20000 in
theorem tie_wsX12_init : wsX12_init = tk ix_wsX12_init := tk_co rfl (tk_ap (tk_ap (tie_wsX12_init_r1) (tie_wsX12_init_r2)) (tie_wsX120))
abbrev ix_wsX12_stateCount : List Nat := 213 :: (([115]) ++ (ix_wsX120))
set_option maxRecDepth 20000 in
theorem tie_wsX12_stateCount : wsX12_stateCount = tk ix_wsX12_stateCount := tk_co rfl (tk_ap (rfl) (tie_wsX120))
abbrev ix_wsX11_formulaCount : List Nat := 868 :: (([39]) ++ (ix_wsX110))
set_option maxRecDepth 20000 in
theorem tie_wsX11_formulaCount : wsX11_formulaCount = tk ix_wsX11_formulaCount := tk_co rfl (tk_ap (rfl) (tie_wsX110))
abbrev ix_wsX12_formulaCount : List Nat := 872 :: (([810]) ++ (ix_wsX120))
set_option maxRecDepth 20000 in
theorem tie_wsX12_formulaCount : wsX12_formulaCount = tk ix_wsX12_formulaCount := tk_co rfl (tk_ap (rfl) (tie_wsX120))
abbrev ix_wsX11_clearFormulas : List Nat := 876 :: (([39, 38]) ++ (ix_wsX110))
set_option maxRecDepth 20000 in
theorem tie_wsX11_clearFormulas : wsX11_clearFormulas = tk ix_wsX11_clearFormulas := tk_co rfl (tk_ap (rfl) (tie_wsX110))
abbrev ix_wsX12_clearFormulas : List Nat := 880 :: (([810, 809]) ++ (ix_wsX120))
set_option maxRecDepth 20000 in
theorem tie_wsX12_clearFormulas : wsX12_clearFormulas = tk ix_wsX12_clearFormulas := tk_co rfl (tk_ap (rfl) (tie_wsX120))
abbrev ix_wsX12_save : List Nat := 1338 :: (([115, 116, 174, 175, 176, 177, 1339]) ++ (ix_wsX120))
set_option maxRecDepth 20000 in
theorem tie_wsX12_save : wsX12_save = tk ix_wsX12_save := tk_co rfl (tk_ap (rfl) (tie_wsX120))
abbrev ix_wsX12_undo : List Nat := 1363 :: (([173, 117, 115, 174, 175, 176, 177]) ++ (ix_wsX120))
set_option maxRecDepth 20000 in
theorem tie_wsX12_undo : wsX12_undo = tk ix_wsX12_undo := tk_co rfl (tk_ap (rfl) (tie_wsX120))
theorem tk_law : tk_eq ix_wsL_law (List.range 1461) = true := by decide +kernel
theorem goodIn_L {ws : List Cond} {is : List Nat} (hs : ws = tk is) (h : is.all (fun i => Nat.blt i 1461 && goodWord (tw i)) = true) : GoodIn wsL_law ws := by
  intro w hw
  rw [hs] at hw
  obtain ⟨i, hi, he⟩ := List.mem_map.mp hw
  have h1 := List.all_eq_true.mp h i hi
  rw [Bool.and_eq_true] at h1
  rw [← he, tie_wsL_law]
  have h3 : i ∈ ix_wsL_law := by
    rw [tk_eq_eq tk_law]
    exact List.mem_range.mpr (Nat.blt_eq.mp h1.1)
  exact ⟨List.mem_map.mpr ⟨i, h3, rfl⟩, good_of_word h1.2⟩
