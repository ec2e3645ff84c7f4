abbrev ix_wsX8_shareOut_r2 : List Nat := [1031, 1012, 1013, 1014, 1015, 69, 474, 475, 476, 17, 477, 61, 62, 478, 479, 402, 403]
set_option maxRecDepth 20000 in
theorem tie_wsX8_shareOut_r2 : wsX8_shareOut_r2 = tk ix_wsX8_shareOut_r2 := rfl
abbrev ix_wsX8_shareOut : List Nat := 1061 :: (((((ix_wsX8_shareOut_r1) ++ (ix_wsX8_shareOut_r2)) ++ (ix_wsX80)) ++ (ix_wsX20)) ++ (ix_wsX30))
set_option maxRecDepth 20000 in
theorem tie_wsX8_shareOut : wsX8_shareOut = tk ix_wsX8_shareOut := tk_co rfl (tk_ap (tk_ap (tk_ap (tk_ap (tie_wsX8_shareOut_r1) (tie_wsX8_shareOut_r2)) (tie_wsX80)) (tie_wsX20)) (tie_wsX30))
abbrev ix_wsX100 : List Nat := [1458, 1459, 1460]
theorem tie_wsX100 : wsX100 = tk ix_wsX100 := by decide +kernel
abbrev ix_wsX10_isDone : List Nat := 798 :: ((([704, 703, 702, 716, 717, 718, 589, 719, 642, 720, 721, 722, 723, 643, 641]) ++ (ix_wsX100)) ++ (ix_wsJ00))
set_option maxRecDepth 20000 in
theorem tie_wsX10_isDone : wsX10_isDone = tk ix_wsX10_isDone := tk_co rfl (tk_ap (tk_ap (rfl) (tie_wsX100)) (tie_wsJ00))
abbrev ix_wsX10_readFormula_r1 : List Nat := [703, 709, 710, 711, 704, 712, 713, 714, 625, 715, 702, 716, 717, 718, 589, 719, 642, 720, 721, 722, 723, 643, 641, 724]
set_option maxRecDepth 20000 in
theorem tie_wsX10_readFormula_r1 : wsX10_readFormula_r1 = tk ix_wsX10_readFormula_r1 := rfl
abbrev ix_wsX10_readFormula_r2 : List Nat := [725, 726, 727, 728, 729, 730, 731, 732, 733, 568, 734, 735, 609, 610, 591, 611, 612, 594, 613, 736, 737, 115, 738, 605]
set_option maxRecDepth 20000 in
theorem tie_wsX10_readFormula_r2 : wsX10_readFormula_r2 = tk ix_wsX10_readFormula_r2 := rfl
abbrev ix_wsX10_readFormula_r3 : List Nat := [606, 607, 584, 585, 586, 608, 669, 670, 671, 599, 600, 601, 739, 740, 741, 742, 10, 11, 743, 744, 745, 746, 747, 748]
set_option maxRecDepth 20000 in
theorem tie_wsX10_readFormula_r3 : wsX10_readFormula_r3 = tk ix_wsX10_readFormula_r3 := rfl
abbrev ix_wsX10_readFormula_r4 : List Nat := [749, 446, 447, 448, 750, 751, 752, 753, 754, 755, 706, 707, 756, 757, 758, 759, 760, 761, 762, 763, 764, 765, 766, 767]
set_option maxRecDepth 20000 in
theorem tie_wsX10_readFormula_r4 : wsX10_readFormula_r4 = tk ix_wsX10_readFormula_r4 := rfl
abbrev ix_wsX10_readFormula_r5 : List Nat := [768, 769, 770, 771, 772, 773, 774, 775, 776, 777, 778, 779, 780, 781, 782, 783, 784, 785, 786, 787, 788, 789, 790, 791]
set_option maxRecDepth 20000 in
theorem tie_wsX10_readFormula_r5 : wsX10_readFormula_r5 = tk ix_wsX10_readFormula_r5 := rfl
abbrev ix_wsX10_readFormula_r6 : List Nat := [792, 793, 794]
set_option maxRecDepth 20000 in
theorem tie_wsX10_readFormula_r6 : wsX10_readFormula_r6 = tk ix_wsX10_readFormula_r6 := rfl
abbrev ix_wsX10_readFormula : List Nat := 708 :: ((((((ix_wsX10_readFormula_r1) ++ ((ix_wsX10_readFormula_r2) ++ ((ix_wsX10_readFormula_r3) ++ ((ix_wsX10_readFormula_r4) ++ ((ix_wsX10_readFormula_r5) ++ (ix_wsX10_readFormula_r6)))))) ++ (ix_wsX90)) ++ (ix_wsX100)) ++ (ix_wsX10)) ++ (ix_wsJ00))
set_option maxRecDepth 20000 in
theorem tie_wsX10_readFormula : wsX10_readFormula = tk ix_wsX10_readFormula := tk_co rfl (tk_ap (tk_ap (tk_ap (tk_ap (tk_ap (tie_wsX10_readFormula_r1) (tk_ap (tie_wsX10_readFormula_r2) (tk_ap (tie_wsX10_readFormula_r3) (tk_ap (tie_wsX10_readFormula_r4) (tk_ap (tie_wsX10_readFormula_r5) (tie_wsX10_readFormula_r6)))))) (tie_wsX90)) (tie_wsX100)) (tie_wsX10)) (tie_wsJ00))
abbrev ix_wsX10_peek_r1 : List Nat := [704, 703, 702, 716, 717, 718, 589, 719, 642, 720, 721, 722, 723, 643, 641, 724, 725, 726, 727, 728, 729, 730, 731, 732]
set_option maxRecDepth 20000 in
theorem tie_wsX10_peek_r1 : wsX10_peek_r1 = tk ix_wsX10_peek_r1 := rfl
abbrev ix_wsX10_peek_r2 : List Nat := [733, 568, 734, 735, 609, 610, 591, 611, 612, 594, 613, 736, 737, 115, 738, 605, 606, 607, 584, 585, 586, 608, 669, 670]
set_option maxRecDepth 20000 in
theorem tie_wsX10_peek_r2 : wsX10_peek_r2 = tk ix_wsX10_peek_r2 := rfl
abbrev ix_wsX10_peek_r3 : List Nat := [671, 599, 600, 601]
set_option maxRecDepth 20000 in
theorem tie_wsX10_peek_r3 : wsX10_peek_r3 = tk ix_wsX10_peek_r3 := rfl
abbrev ix_wsX10_peek : List Nat := 715 :: ((((ix_wsX10_peek_r1) ++ ((ix_wsX10_peek_r2) ++ (ix_wsX10_peek_r3))) ++ (ix_wsX100)) ++ (ix_wsJ00))
set_option maxRecDepth 20000 in
theorem tie_wsX10_peek : wsX10_peek = tk ix_wsX10_peek := tk_co rfl (tk_ap (tk_ap (tk_ap (tie_wsX10_peek_r1) (tk_ap (tie_wsX10_peek_r2) (tie_wsX10_peek_r3))) (tie_wsX100)) (tie_wsJ00))
abbrev ix_wsX9_init : List Nat := 741 :: (([742, 10, 11, 743, 744, 745, 746, 747, 748, 749, 446, 447, 448, 750]) ++ (ix_wsX90))
set_option maxRecDepth 20000 in
theorem tie_wsX9_init : wsX9_init = tk ix_wsX9_init := tk_co rfl (tk_ap (rfl) (tie_wsX90))
abbrev ix_wsX10_skip_r1 : List Nat := [704, 703, 712, 713, 714, 625, 715, 702, 716, 717, 718, 589, 719, 642, 720, 721, 722, 723, 643, 641, 724, 725, 726, 727]
set_option maxRecDepth 20000 in
theorem tie_wsX10_skip_r1 : wsX10_skip_r1 = tk ix_wsX10_skip_r1 := rfl
abbrev ix_wsX10_skip_r2 : List Nat := [728, 729, 730, 731, 732, 733, 568, 734, 735, 609, 610, 591, 611, 612, 594, 613, 736, 737, 115, 738, 605, 606, 607, 584]
set_option maxRecDepth 20000 in
theorem tie_wsX10_skip_r2 : wsX10_skip_r2 = tk ix_wsX10_skip_r2 := rfl
abbrev ix_wsX10_skip_r3 : List Nat := [585, 586, 608, 669, 670, 671, 599, 600, 601]
set_option maxRecDepth 20000 in
theorem tie_wsX10_skip_r3 : wsX10_skip_r3 = tk ix_wsX10_skip_r3 := rfl
abbrev ix_wsX10_skip : List Nat := 754 :: ((((ix_wsX10_skip_r1) ++ ((ix_wsX10_skip_r2) ++ (ix_wsX10_skip_r3))) ++ (ix_wsX100)) ++ (ix_wsJ00))
set_option maxRecDepth 20000 in
theorem tie_wsX10_skip : wsX10_skip = tk ix_wsX10_skip := tk_co rfl (tk_ap (tk_ap (tk_ap (tie_wsX10_skip_r1) (tk_ap (tie_wsX10_skip_r2) (tie_wsX10_skip_r3))) (tie_wsX100)) (tie_wsJ00))
abbrev ix_wsX10_readPair_r1 : List Nat := [709, 710, 711, 755, 706, 707, 625, 751, 752, 753, 754, 704, 703, 712, 713, 714, 715, 702, 716, 717, 718, 589, 719, 642]
set_option maxRecDepth 20000 in
theorem tie_wsX10_readPair_r1 : wsX10_readPair_r1 = tk ix_wsX10_readPair_r1 := rfl
abbrev ix_wsX10_readPair_r2 : List Nat := [720, 721, 722, 723, 643, 641, 724, 725, 726, 727, 728, 729, 730, 731, 732, 733, 568, 734, 735, 609, 610, 591, 611, 612]
set_option maxRecDepth 20000 in
theorem tie_wsX10_readPair_r2 : wsX10_readPair_r2 = tk ix_wsX10_readPair_r2 := rfl
abbrev ix_wsX10_readPair_r3 : List Nat := [594, 613, 736, 737, 115, 738, 605, 606, 607, 584, 585, 586, 608, 669, 670, 671, 599, 600, 601, 773, 774, 775, 776, 739]
set_option maxRecDepth 20000 in
theorem tie_wsX10_readPair_r3 : wsX10_readPair_r3 = tk ix_wsX10_readPair_r3 := rfl
abbrev ix_wsX10_readPair_r4 : List Nat := [740, 741, 742, 10, 11, 743, 744, 745, 746, 747, 748, 749, 446, 447, 448, 750, 765, 766, 767, 768, 769, 770, 771, 772]
set_option maxRecDepth 20000 in
theorem tie_wsX10_readPair_r4 : wsX10_readPair_r4 = tk ix_wsX10_readPair_r4 := rfl
abbrev ix_wsX10_readPair_r5 : List Nat := [777, 778, 779, 780, 781, 782, 783, 784, 785, 786, 787, 788, 708, 756, 757, 758, 759, 760, 761, 762, 763, 764, 790, 791]
set_option maxRecDepth 20000 in
theorem tie_wsX10_readPair_r5 : wsX10_readPair_r5 = tk ix_wsX10_readPair_r5 := rfl
abbrev ix_wsX10_readPair_r6 : List Nat := [792, 793, 794]
set_option maxRecDepth 20000 in
theorem tie_wsX10_readPair_r6 : wsX10_readPair_r6 = tk ix_wsX10_readPair_r6 := rfl
abbrev ix_wsX10_readPair : List Nat := 789 :: ((((((ix_wsX10_readPair_r1) ++ ((ix_wsX10_readPair_r2) ++ ((ix_wsX10_readPair_r3) ++ ((ix_wsX10_readPair_r4) ++ ((ix_wsX10_readPair_r5) ++ (ix_wsX10_readPair_r6)))))) ++ (ix_wsX90)) ++ (ix_wsX100)) ++ (ix_wsX10)) ++ (ix_wsJ00))
set_option maxRecDepth 20000 in
theorem tie_wsX10_readPair : wsX10_readPair = tk ix_wsX10_readPair := tk_co rfl (tk_ap (tk_ap (tk_ap (tk_ap (tk_ap (tie_wsX10_readPair_r1) (tk_ap (tie_wsX10_readPair_r2) (tk_ap (tie_wsX10_readPair_r3) (tk_ap (tie_wsX10_readPair_r4) (tk_ap (tie_wsX10_readPair_r5) (tie_wsX10_readPair_r6)))))) (tie_wsX90)) (tie_wsX100)) (tie_wsX10)) (tie_wsJ00))
abbrev ix_wsX10_readProbability_r1 : List Nat := [704, 709, 710, 711, 766, 767, 768, 625, 769, 703, 770, 771, 772, 751, 752, 753, 754, 712, 713, 714, 715, 702, 716, 717]
set_option maxRecDepth 20000 in
theorem tie_wsX10_readProbability_r1 : wsX10_readProbability_r1 = tk ix_wsX10_readProbability_r1 := rfl
abbrev ix_wsX10_readProbability_r2 : List Nat := [718, 589, 719, 642, 720, 721, 722, 723, 643, 641, 724, 725, 726, 727, 728, 729, 730, 731, 732, 733, 568, 734, 735, 609]
set_option maxRecDepth 20000 in
theorem tie_wsX10_readProbability_r2 : wsX10_readProbability_r2 = tk ix_wsX10_readProbability_r2 := rfl
abbrev ix_wsX10_readProbability_r3 : List Nat := [610, 591, 611, 612, 594, 613, 736, 737, 115, 738, 605, 606, 607, 584, 585, 586, 608, 669, 670, 671, 599, 600, 601, 773]
set_option maxRecDepth 20000 in
theorem tie_wsX10_readProbability_r3 : wsX10_readProbability_r3 = tk ix_wsX10_readProbability_r3 := rfl
abbrev ix_wsX10_readProbability_r4 : List Nat := [774, 775, 776, 777, 778, 779, 780, 781, 782, 783, 784, 10, 11, 785, 786, 787, 788, 791, 792, 793, 794, 755, 706, 707]
set_option maxRecDepth 20000 in
theorem tie_wsX10_readProbability_r4 : wsX10_readProbability_r4 = tk ix_wsX10_readProbability_r4 := rfl
abbrev ix_wsX10_readProbability_r5 : List Nat := [739, 740, 741, 742, 743, 744, 745, 746, 747, 748, 749, 446, 447, 448, 750, 765, 708, 756, 757, 758, 759, 760, 761, 762]
set_option maxRecDepth 20000 in
theorem tie_wsX10_readProbability_r5 : wsX10_readProbability_r5 = tk ix_wsX10_readProbability_r5 := rfl
abbrev ix_wsX10_readProbability_r6 : List Nat := [763, 764, 789]
set_option maxRecDepth 20000 in
theorem tie_wsX10_readProbability_r6 : wsX10_readProbability_r6 = tk ix_wsX10_readProbability_r6 := rfl
abbrev ix_wsX10_readProbability : List Nat := 790 :: ((((((ix_wsX10_readProbability_r1) ++ ((ix_wsX10_readProbability_r2) ++ ((ix_wsX10_readProbability_r3) ++ ((ix_wsX10_readProbability_r4) ++ ((ix_wsX10_readProbability_r5) ++ (ix_wsX10_readProbability_r6)))))) ++ (ix_wsX90)) ++ (ix_wsX100)) ++ (ix_wsX10)) ++ (ix_wsJ00))
set_option maxRecDepth 20000 in
theorem tie_wsX10_readProbability : wsX10_readProbability = tk ix_wsX10_readProbability := tk_co rfl (tk_ap (tk_ap (tk_ap (tk_ap (tk_ap (tie_wsX10_readProbability_r1) (tk_ap (tie_wsX10_readProbability_r2) (tk_ap (tie_wsX10_readProbability_r3) (tk_ap (tie_wsX10_readProbability_r4) (tk_ap (tie_wsX10_readProbability_r5) (tie_wsX10_readProbability_r6)))))) (tie_wsX90)) (tie_wsX100)) (tie_wsX10)) (tie_wsJ00))
abbrev ix_wsX10_readBounded_r1 : List Nat := [709, 710, 711, 766, 767, 768, 625, 769, 704, 703, 770, 771, 772, 751, 752, 753, 754, 712, 713, 714, 715, 702, 716, 717]
set_option maxRecDepth 20000 in
theorem tie_wsX10_readBounded_r1 : wsX10_readBounded_r1 = tk ix_wsX10_readBounded_r1 := rfl
abbrev ix_wsX10_readBounded_r2 : List Nat := [718, 589, 719, 642, 720, 721, 722, 723, 643, 641, 724, 725, 726, 727, 728, 729, 730, 731, 732, 733, 568, 734, 735, 609]
set_option maxRecDepth 20000 in
theorem tie_wsX10_readBounded_r2 : wsX10_readBounded_r2 = tk ix_wsX10_readBounded_r2 := rfl
abbrev ix_wsX10_readBounded_r3 : List Nat := [610, 591, 611, 612, 594, 613, 736, 737, 115, 738, 605, 606, 607, 584, 585, 586, 608, 669, 670, 671, 599, 600, 601, 773]
set_option maxRecDepth 20000 in
theorem tie_wsX10_readBounded_r3 : wsX10_readBounded_r3 = tk ix_wsX10_readBounded_r3 := rfl
abbrev ix_wsX10_readBounded_r4 : List Nat := [774, 775, 776, 777, 778, 779, 780, 781, 782, 783, 784, 10, 11, 785, 786, 787, 788, 755, 706, 707, 739, 740, 741, 742]
set_option maxRecDepth 20000 in
theorem tie_wsX10_readBounded_r4 : wsX10_readBounded_r4 = tk ix_wsX10_readBounded_r4 := rfl
abbrev ix_wsX10_readBounded_r5 : List Nat := [743, 744, 745, 746, 747, 748, 749, 446, 447, 448, 750, 708, 756, 757, 758, 759, 760, 761, 762, 763, 764, 789, 790, 791]
set_option maxRecDepth 20000 in
theorem tie_wsX10_readBounded_r5 : wsX10_readBounded_r5 = tk ix_wsX10_readBounded_r5 := rfl
abbrev ix_wsX10_readBounded_r6 : List Nat := [792, 793, 794]
set_option maxRecDepth 20000 in
theorem tie_wsX10_readBounded_r6 : wsX10_readBounded_r6 = tk ix_wsX10_readBounded_r6 := rfl
abbrev ix_wsX10_readBounded : List Nat := 765 :: ((((((ix_wsX10_readBounded_r1) ++ ((ix_wsX10_readBounded_r2) ++ ((ix_wsX10_readBounded_r3) ++ ((ix_wsX10_readBounded_r4) ++ ((ix_wsX10_readBounded_r5) ++ (ix_wsX10_readBounded_r6)))))) ++ (ix_wsX90)) ++ (ix_wsX100)) ++ (ix_wsX10)) ++ (ix_wsJ00))
set_option maxRecDepth 20000 in
theorem tie_wsX10_readBounded : wsX10_readBounded = tk ix_wsX10_readBounded := tk_co rfl (tk_ap (tk_ap (tk_ap (tk_ap (tk_ap (tie_wsX10_readBounded_r1) (tk_ap (tie_wsX10_readBounded_r2) (tk_ap (tie_wsX10_readBounded_r3) (tk_ap (tie_wsX10_readBounded_r4) (tk_ap (tie_wsX10_readBounded_r5) (tie_wsX10_readBounded_r6)))))) (tie_wsX90)) (tie_wsX100)) (tie_wsX10)) (tie_wsJ00))
abbrev ix_wsX10_expect_r1 : List Nat := [704, 751, 752, 753, 625, 754, 703, 712, 713, 714, 715, 702, 716, 717, 718, 589, 719, 642, 720, 721, 722, 723, 643, 641]
set_option maxRecDepth 20000 in
theorem tie_wsX10_expect_r1 : wsX10_expect_r1 = tk ix_wsX10_expect_r1 := rfl
abbrev ix_wsX10_expect_r2 : List Nat := [724, 725, 726, 727, 728, 729, 730, 731, 732, 733, 568, 734, 735, 609, 610, 591, 611, 612, 594, 613, 736, 737, 115, 738]
set_option maxRecDepth 20000 in
theorem tie_wsX10_expect_r2 : wsX10_expect_r2 = tk ix_wsX10_expect_r2 := rfl
abbrev ix_wsX10_expect_r3 : List Nat := [605, 606, 607, 584, 585, 586, 608, 669, 670, 671, 599, 600, 601]
set_option maxRecDepth 20000 in
theorem tie_wsX10_expect_r3 : wsX10_expect_r3 = tk ix_wsX10_expect_r3 := rfl
abbrev ix_wsX10_expect : List Nat := 776 :: ((((ix_wsX10_expect_r1) ++ ((ix_wsX10_expect_r2) ++ (ix_wsX10_expect_r3))) ++ (ix_wsX100)) ++ (ix_wsJ00))
set_option maxRecDepth 20000 in
theorem tie_wsX10_expect : wsX10_expect = tk ix_wsX10_expect := tk_co rfl (tk_ap (tk_ap (tk_ap (tie_wsX10_expect_r1) (tk_ap (tie_wsX10_expect_r2) (tie_wsX10_expect_r3))) (tie_wsX100)) (tie_wsJ00))
abbrev ix_wsX10_readBound_r1 : List Nat := [704, 703, 770, 771, 772, 751, 752, 753, 625, 754, 712, 713, 714, 715, 702, 716, 717, 718, 589, 719, 642, 720, 721, 722]
set_option maxRecDepth 20000 in
theorem tie_wsX10_readBound_r1 : wsX10_readBound_r1 = tk ix_wsX10_readBound_r1 := rfl
abbrev ix_wsX10_readBound_r2 : List Nat := [723, 643, 641, 724, 725, 726, 727, 728, 729, 730, 731, 732, 733, 568, 734, 735, 609, 610, 591, 611, 612, 594, 613, 736]
set_option maxRecDepth 20000 in
theorem tie_wsX10_readBound_r2 : wsX10_readBound_r2 = tk ix_wsX10_readBound_r2 := rfl
abbrev ix_wsX10_readBound_r3 : List Nat := [737, 115, 738, 605, 606, 607, 584, 585, 586, 608, 669, 670, 671, 599, 600, 601, 773, 774, 775, 776, 777, 778, 779, 780]
set_option maxRecDepth 20000 in
theorem tie_wsX10_readBound_r3 : wsX10_readBound_r3 = tk ix_wsX10_readBound_r3 := rfl
abbrev ix_wsX10_readBound_r4 : List Nat := [781, 782, 783, 784, 10, 11, 785, 786, 787, 788]
set_option maxRecDepth 20000 in
theorem tie_wsX10_readBound_r4 : wsX10_readBound_r4 = tk ix_wsX10_readBound_r4 := rfl
abbrev ix_wsX10_readBound : List Nat := 769 :: (((((ix_wsX10_readBound_r1) ++ ((ix_wsX10_readBound_r2) ++ ((ix_wsX10_readBound_r3) ++ (ix_wsX10_readBound_r4)))) ++ (ix_wsX100)) ++ (ix_wsX10)) ++ (ix_wsJ00))
set_option maxRecDepth 20000 in
theorem tie_wsX10_readBound : wsX10_readBound = tk ix_wsX10_readBound := tk_co rfl (tk_ap (tk_ap (tk_ap (tk_ap (tie_wsX10_readBound_r1) (tk_ap (tie_wsX10_readBound_r2) (tk_ap (tie_wsX10_readBound_r3) (tie_wsX10_readBound_r4)))) (tie_wsX100)) (tie_wsX10)) (tie_wsJ00))
abbrev ix_wsX10_readSteps_r1 : List Nat := [704, 703, 712, 713, 714, 625, 715, 702, 716, 717, 718, 589, 719, 642, 720, 721, 722, 723, 643, 641, 724, 725, 726, 727]
set_option maxRecDepth 20000 in
theorem tie_wsX10_readSteps_r1 : wsX10_readSteps_r1 = tk ix_wsX10_readSteps_r1 := rfl
abbrev ix_wsX10_readSteps_r2 : List Nat := [728, 729, 730, 731, 732, 733, 568, 734, 735, 609, 610, 591, 611, 612, 594, 613, 736, 737, 115, 738, 605, 606, 607, 584]
set_option maxRecDepth 20000 in
theorem tie_wsX10_readSteps_r2 : wsX10_readSteps_r2 = tk ix_wsX10_readSteps_r2 := rfl
abbrev ix_wsX10_readSteps_r3 : List Nat := [585, 586, 608, 669, 670, 671, 599, 600, 601]
set_option maxRecDepth 20000 in
theorem tie_wsX10_readSteps_r3 : wsX10_readSteps_r3 = tk ix_wsX10_readSteps_r3 := rfl
abbrev ix_wsX10_readSteps : List Nat := 794 :: ((((ix_wsX10_readSteps_r1) ++ ((ix_wsX10_readSteps_r2) ++ (ix_wsX10_readSteps_r3))) ++ (ix_wsX100)) ++ (ix_wsJ00))
set_option maxRecDepth 20000 in
theorem tie_wsX10_readSteps : wsX10_readSteps = tk ix_wsX10_readSteps := tk_co rfl (tk_ap (tk_ap (tk_ap (tie_wsX10_readSteps_r1) (tk_ap (tie_wsX10_readSteps_r2) (tie_wsX10_readSteps_r3))) (tie_wsX100)) (tie_wsJ00))
abbrev ix_wsX10_readNumber_r1 : List Nat := [703, 704, 712, 713, 714, 625, 715, 702, 716, 717, 718, 589, 719, 642, 720, 721, 722, 723, 643, 641, 724, 725, 726, 727]
set_option maxRecDepth 20000 in
theorem tie_wsX10_readNumber_r1 : wsX10_readNumber_r1 = tk ix_wsX10_readNumber_r1 := rfl
abbrev ix_wsX10_readNumber_r2 : List Nat := [728, 729, 730, 731, 732, 733, 568, 734, 735, 609, 610, 591, 611, 612, 594, 613, 736, 737, 115, 738, 605, 606, 607, 584]
set_option maxRecDepth 20000 in
theorem tie_wsX10_readNumber_r2 : wsX10_readNumber_r2 = tk ix_wsX10_readNumber_r2 := rfl
abbrev ix_wsX10_readNumber_r3 : List Nat := [585, 586, 608, 669, 670, 671, 599, 600, 601]
set_option maxRecDepth 20000 in
theorem tie_wsX10_readNumber_r3 : wsX10_readNumber_r3 = tk ix_wsX10_readNumber_r3 := rfl
abbrev ix_wsX10_readNumber : List Nat := 780 :: ((((ix_wsX10_readNumber_r1) ++ ((ix_wsX10_readNumber_r2) ++ (ix_wsX10_readNumber_r3))) ++ (ix_wsX100)) ++ (ix_wsJ00))
set_option maxRecDepth 20000 in
theorem tie_wsX10_readNumber : wsX10_readNumber = tk ix_wsX10_readNumber := tk_co rfl (tk_ap (tk_ap (tk_ap (tie_wsX10_readNumber_r1) (tk_ap (tie_wsX10_readNumber_r2) (tie_wsX10_readNumber_r3))) (tie_wsX100)) (tie_wsJ00))
abbrev ix_wsX1_init : List Nat := 783 :: (([784, 10, 11, 785, 786, 787, 788]) ++ (ix_wsX10))
set_option maxRecDepth 20000 in
theorem tie_wsX1_init : wsX1_init = tk ix_wsX1_init := tk_co rfl (tk_ap (rfl) (tie_wsX10))
abbrev ix_wsX11_init_r1 : List Nat := [9, 10, 11, 12, 13, 14, 15, 16, 17, 18, 19, 20, 21, 22, 23, 24, 25, 26, 27, 28, 29, 30, 31, 32]
set_option maxRecDepth 20000 in
theorem tie_wsX11_init_r1 : wsX11_init_r1 = tk ix_wsX11_init_r1 := rfl
abbrev ix_wsX11_init_r2 : List Nat := [33, 34, 35, 36, 37, 38, 39, 40, 41, 42, 43, 44, 45, 46, 47, 48, 49, 50, 51, 52, 53, 54, 55, 56]
set_option maxRecDepth 20000 in
theorem tie_wsX11_init_r2 : wsX11_init_r2 = tk ix_wsX11_init_r2 := rfl
abbrev ix_wsX11_init_r3 : List Nat := [57, 58, 59, 60, 61, 62, 63, 64, 65, 66, 67, 68, 69, 70, 71, 72, 73, 74, 75, 76, 77, 78, 79, 80]
set_option maxRecDepth 20000 in
theorem tie_wsX11_init_r3 : wsX11_init_r3 = tk ix_wsX11_init_r3 := rfl
abbrev ix_wsX11_init_r4 : List Nat := [81, 82, 83, 84, 85, 86, 87, 88, 89, 90, 91, 92, 93, 94, 95, 96, 97, 98, 99, 100, 101, 102, 103, 104]
set_option maxRecDepth 20000 in
theorem tie_wsX11_init_r4 : wsX11_init_r4 = tk ix_wsX11_init_r4 := rfl
abbrev ix_wsX11_init_r5 : List Nat := [105, 106, 107, 108, 109, 110, 111, 112, 113, 114, 115, 116, 117, 118, 119, 120]
set_option maxRecDepth 20000 in
theorem tie_wsX11_init_r5 : wsX11_init_r5 = tk ix_wsX11_init_r5 := rfl
abbrev ix_wsX110 : List Nat := [1378, 1379, 1380, 1381, 1382, 1383, 1384, 1385, 1386, 1387, 1388]
theorem tie_wsX110 : wsX110 = tk ix_wsX110 := by decide +kernel
abbrev ix_wsJ40 : List Nat := [1453, 1454, 1455, 1456]
theorem tie_wsJ40 : wsJ40 = tk ix_wsJ40 := by decide +kernel
abbrev ix_wsX11_init : List Nat := 8 :: (((((((((((ix_wsX11_init_r1) ++ ((ix_wsX11_init_r2) ++ ((ix_wsX11_init_r3) ++ ((ix_wsX11_init_r4) ++ (ix_wsX11_init_r5))))) ++ (ix_wsX20)) ++ (ix_wsX80)) ++ (ix_wsX110)) ++ (ix_wsX60)) ++ (ix_wsX70)) ++ (ix_wsX40)) ++ (ix_wsX00)) ++ (ix_wsJ40)) ++ (ix_wsX30))
set_option maxRecDepth 20000 in
theorem tie_wsX11_init : wsX11_init = tk ix_wsX11_init := tk_co rfl (tk_ap (tk_ap (tk_ap (tk_ap (tk_ap (tk_ap (tk_ap (tk_ap (tk_ap (tk_ap (tie_wsX11_init_r1) (tk_ap (tie_wsX11_init_r2) (tk_ap (tie_wsX11_init_r3) (tk_ap (tie_wsX11_init_r4) (tie_wsX11_init_r5))))) (tie_wsX20)) (tie_wsX80)) (tie_wsX110)) (tie_wsX60)) (tie_wsX70)) (tie_wsX40)) (tie_wsX00)) (tie_wsJ40)) (tie_wsX30))
abbrev ix_wsX7_init : List Nat := 80 :: (([81, 10, 11, 48, 82, 83, 84, 85]) ++ (ix_wsX70))
set_option maxRecDepth 20000 in
theorem tie_wsX7_init : wsX7_init = tk ix_wsX7_init := tk_co rfl (tk_ap (rfl) (tie_wsX70))
abbrev ix_wsX4_init : List Nat := 88 :: (([89, 10, 11, 90, 91]) ++ (ix_wsX40))
set_option maxRecDepth 20000 in
theorem tie_wsX4_init : wsX4_init = tk ix_wsX4_init := tk_co rfl (tk_ap (rfl) (tie_wsX40))
abbrev ix_wsX0_init : List Nat := 94 :: (([95, 10, 11, 60, 96, 97, 48, 98, 99, 100]) ++ (ix_wsX00))
set_option maxRecDepth 20000 in
theorem tie_wsX0_init : wsX0_init = tk ix_wsX0_init := tk_co rfl (tk_ap (rfl) (tie_wsX00))
abbrev ix_wsJ4_init_da8c8 : List Nat := 103 :: (([104, 105, 106, 107, 108, 10, 11, 109, 110, 111, 112, 113, 114, 115, 116, 117, 118, 119, 120]) ++ (ix_wsJ40))
set_option maxRecDepth 20000 in
theorem tie_wsJ4_init_da8c8 : wsJ4_init_da8c8 = tk ix_wsJ4_init_da8c8 := tk_co rfl (tk_ap (rfl) (tie_wsJ40))
abbrev ix_wsX11_addState_r1 : List Nat := [18, 23, 154, 155, 156, 14, 157, 158, 159, 160, 161, 22, 162, 76, 77, 163, 164, 165, 166, 75, 167, 168, 169, 170]
set_option maxRecDepth 20000 in
theorem tie_wsX11_addState_r1 : wsX11_addState_r1 = tk ix_wsX11_addState_r1 := rfl
abbrev ix_wsX11_addState_r2 : List Nat := [49, 50, 51, 171, 172, 173, 174]
set_option maxRecDepth 20000 in
theorem tie_wsX11_addState_r2 : wsX11_addState_r2 = tk ix_wsX11_addState_r2 := rfl
abbrev ix_wsX11_addState : List Nat := 153 :: (((((ix_wsX11_addState_r1) ++ (ix_wsX11_addState_r2)) ++ (ix_wsX110)) ++ (ix_wsX20)) ++ (ix_wsX60))
set_option maxRecDepth 20000 in
theorem tie_wsX11_addState : wsX11_addState = tk ix_wsX11_addState := tk_co rfl (tk_ap (tk_ap (tk_ap (tk_ap (tie_wsX11_addState_r1) (tie_wsX11_addState_r2)) (tie_wsX110)) (tie_wsX20)) (tie_wsX60))
abbrev ix_wsX2_grow : List Nat := 174 :: (([158]) ++ (ix_wsX20))
set_option maxRecDepth 20000 in
theorem tie_wsX2_grow : wsX2_grow = tk ix_wsX2_grow := tk_co rfl (tk_ap (rfl) (tie_wsX20))
abbrev ix_wsX11_removeState_r1 : List Nat := [18, 23, 154, 155, 156, 14, 157, 158, 159, 160, 161, 22, 162, 76, 77, 163, 164, 165, 166, 75, 167, 168, 169, 170]
set_option maxRecDepth 20000 in
theorem tie_wsX11_removeState_r1 : wsX11_removeState_r1 = tk ix_wsX11_removeState_r1 := rfl
abbrev ix_wsX11_removeState_r2 : List Nat := [49, 50, 51, 192, 193, 194, 195, 196, 197, 198, 199, 200, 201, 202, 203, 204, 205, 206, 207, 208, 209, 210, 211]
set_option maxRecDepth 20000 in
theorem tie_wsX11_removeState_r2 : wsX11_removeState_r2 = tk ix_wsX11_removeState_r2 := rfl
abbrev ix_wsX11_removeState : List Nat := 191 :: (((((ix_wsX11_removeState_r1) ++ (ix_wsX11_removeState_r2)) ++ (ix_wsX110)) ++ (ix_wsX20)) ++ (ix_wsX60))
set_option maxRecDepth 20000 in
theorem tie_wsX11_removeState : wsX11_removeState = tk ix_wsX11_removeState := tk_co rfl (tk_ap (tk_ap (tk_ap (tk_ap (tie_wsX11_removeState_r1) (tie_wsX11_removeState_r2)) (tie_wsX110)) (tie_wsX20)) (tie_wsX60))
abbrev ix_wsX11_stateCount : List Nat := 219 :: ((([18, 154, 155, 156, 14, 157, 158]) ++ (ix_wsX110)) ++ (ix_wsX20))
set_option maxRecDepth 20000 in
theorem tie_wsX11_stateCount : wsX11_stateCount = tk ix_wsX11_stateCount := tk_co rfl (tk_ap (tk_ap (rfl) (tie_wsX110)) (tie_wsX20))
abbrev ix_wsX11_setWeight_r1 : List Nat := [18, 23, 228, 201, 202, 14, 203, 158, 229, 230, 231, 232, 49, 233, 234, 235, 236, 237, 159, 160, 161, 22, 162, 76]
set_option maxRecDepth 20000 in
theorem tie_wsX11_setWeight_r1 : wsX11_setWeight_r1 = tk ix_wsX11_setWeight_r1 := rfl
abbrev ix_wsX11_setWeight_r2 : List Nat := [77, 163, 164, 165, 166, 75, 167, 168, 169, 170, 50, 51, 238, 197, 198, 199, 200]
set_option maxRecDepth 20000 in
theorem tie_wsX11_setWeight_r2 : wsX11_setWeight_r2 = tk ix_wsX11_setWeight_r2 := rfl
abbrev ix_wsX11_setWeight : List Nat := 227 :: (((((ix_wsX11_setWeight_r1) ++ (ix_wsX11_setWeight_r2)) ++ (ix_wsX110)) ++ (ix_wsX20)) ++ (ix_wsX60))
set_option maxRecDepth 20000 in
theorem tie_wsX11_setWeight : wsX11_setWeight = tk ix_wsX11_setWeight := tk_co rfl (tk_ap (tk_ap (tk_ap (tk_ap (tie_wsX11_setWeight_r1) (tie_wsX11_setWeight_r2)) (tie_wsX110)) (tie_wsX20)) (tie_wsX60))
abbrev ix_wsX11_weight : List Nat := 257 :: ((([18, 228, 201, 202, 14, 203, 158, 229, 230, 231, 232, 49]) ++ (ix_wsX110)) ++ (ix_wsX20))
set_option maxRecDepth 20000 in
theorem tie_wsX11_weight : wsX11_weight = tk ix_wsX11_weight := tk_co rfl (tk_ap (tk_ap (rfl) (tie_wsX110)) (tie_wsX20))
abbrev ix_wsX11_sum : List Nat := 265 :: ((([18, 228, 201, 202, 14, 203, 158, 233, 234, 235, 236, 237, 230, 231, 232, 49]) ++ (ix_wsX110)) ++ (ix_wsX20))
set_option maxRecDepth 20000 in
theorem tie_wsX11_sum : wsX11_sum = tk ix_wsX11_sum := tk_co rfl (tk_ap (tk_ap (rfl) (tie_wsX110)) (tie_wsX20))
abbrev ix_wsX11_setLabels_r1 : List Nat := [18, 23, 228, 201, 202, 14, 203, 158, 274, 275, 276, 277, 50, 200, 159, 160, 161, 22, 162, 76, 77, 163, 164, 165]
set_option maxRecDepth 20000 in
theorem tie_wsX11_setLabels_r1 : wsX11_setLabels_r1 = tk ix_wsX11_setLabels_r1 := rfl
abbrev ix_wsX11_setLabels_r2 : List Nat := [166, 75, 167, 168, 169, 170, 49, 51, 278, 205, 206, 207]
set_option maxRecDepth 20000 in
theorem tie_wsX11_setLabels_r2 : wsX11_setLabels_r2 = tk ix_wsX11_setLabels_r2 := rfl
abbrev ix_wsX11_setLabels : List Nat := 273 :: (((((ix_wsX11_setLabels_r1) ++ (ix_wsX11_setLabels_r2)) ++ (ix_wsX110)) ++ (ix_wsX20)) ++ (ix_wsX60))
set_option maxRecDepth 20000 in
theorem tie_wsX11_setLabels : wsX11_setLabels = tk ix_wsX11_setLabels := tk_co rfl (tk_ap (tk_ap (tk_ap (tk_ap (tie_wsX11_setLabels_r1) (tie_wsX11_setLabels_r2)) (tie_wsX110)) (tie_wsX20)) (tie_wsX60))
abbrev ix_wsX11_labels : List Nat := 286 :: ((([18, 228, 201, 202, 14, 203, 158, 274, 275, 276, 277, 50, 200]) ++ (ix_wsX110)) ++ (ix_wsX20))
set_option maxRecDepth 20000 in
theorem tie_wsX11_labels : wsX11_labels = tk ix_wsX11_labels := tk_co rfl (tk_ap (tk_ap (rfl) (tie_wsX110)) (tie_wsX20))
abbrev ix_wsX11_setReward_r1 : List Nat := [18, 23, 228, 201, 202, 14, 203, 158, 295, 296, 297, 298, 51, 200, 159, 160, 161, 22, 162, 76, 77, 163, 164, 165]
set_option maxRecDepth 20000 in
theorem tie_wsX11_setReward_r1 : wsX11_setReward_r1 = tk ix_wsX11_setReward_r1 := rfl
abbrev ix_wsX11_setReward_r2 : List Nat := [166, 75, 167, 168, 169, 170, 49, 50, 299, 209, 210, 211]
set_option maxRecDepth 20000 in
theorem tie_wsX11_setReward_r2 : wsX11_setReward_r2 = tk ix_wsX11_setReward_r2 := rfl
abbrev ix_wsX11_setReward : List Nat := 294 :: (((((ix_wsX11_setReward_r1) ++ (ix_wsX11_setReward_r2)) ++ (ix_wsX110)) ++ (ix_wsX20)) ++ (ix_wsX60))
set_option maxRecDepth 20000 in
theorem tie_wsX11_setReward : wsX11_setReward = tk ix_wsX11_setReward := tk_co rfl (tk_ap (tk_ap (tk_ap (tk_ap (tie_wsX11_setReward_r1) (tie_wsX11_setReward_r2)) (tie_wsX110)) (tie_wsX20)) (tie_wsX60))
abbrev ix_wsX11_reward : List Nat := 307 :: ((([18, 228, 201, 202, 14, 203, 158, 295, 296, 297, 298, 51, 200]) ++ (ix_wsX110)) ++ (ix_wsX20))
set_option maxRecDepth 20000 in
theorem tie_wsX11_reward : wsX11_reward = tk ix_wsX11_reward := tk_co rfl (tk_ap (tk_ap (rfl) (tie_wsX110)) (tie_wsX20))
abbrev ix_wsX11_reaches : List Nat := 315 :: ((([18, 228, 201, 202, 14, 203, 158, 316, 317, 318, 319, 320, 2, 321, 322, 323, 324, 325, 237, 230, 231, 232, 49]) ++ (ix_wsX110)) ++ (ix_wsX20))
set_option maxRecDepth 20000 in
theorem tie_wsX11_reaches : wsX11_reaches = tk ix_wsX11_reaches := tk_co rfl (tk_ap (tk_ap (rfl) (tie_wsX110)) (tie_wsX20))
abbrev ix_wsX11_component_r1 : List Nat := [18, 228, 201, 202, 14, 203, 158, 345, 346, 347, 348, 349, 317, 318, 319, 320, 2, 321, 322, 323, 324, 325, 237, 230]
set_option maxRecDepth 20000 in
theorem tie_wsX11_component_r1 : wsX11_component_r1 = tk ix_wsX11_component_r1 := rfl
abbrev ix_wsX11_component_r2 : List Nat := [231, 232, 49]
set_option maxRecDepth 20000 in
theorem tie_wsX11_component_r2 : wsX11_component_r2 = tk ix_wsX11_component_r2 := rfl
abbrev ix_wsX11_component : List Nat := 344 :: ((((ix_wsX11_component_r1) ++ (ix_wsX11_component_r2)) ++ (ix_wsX110)) ++ (ix_wsX20))
set_option maxRecDepth 20000 in
theorem tie_wsX11_component : wsX11_component = tk ix_wsX11_component := tk_co rfl (tk_ap (tk_ap (tk_ap (tie_wsX11_component_r1) (tie_wsX11_component_r2)) (tie_wsX110)) (tie_wsX20))
abbrev ix_wsX11_bottoms_r1 : List Nat := [18, 362, 363, 364, 14, 365, 158, 366, 367, 368, 369, 349, 317, 318, 319, 320, 2, 321, 322, 323, 324, 325, 237, 230]
set_option maxRecDepth 20000 in
theorem tie_wsX11_bottoms_r1 : wsX11_bottoms_r1 = tk ix_wsX11_bottoms_r1 := rfl
abbrev ix_wsX11_bottoms_r2 : List Nat := [231, 232, 49]
set_option maxRecDepth 20000 in
theorem tie_wsX11_bottoms_r2 : wsX11_bottoms_r2 = tk ix_wsX11_bottoms_r2 := rfl
abbrev ix_wsX11_bottoms : List Nat := 361 :: ((((ix_wsX11_bottoms_r1) ++ (ix_wsX11_bottoms_r2)) ++ (ix_wsX110)) ++ (ix_wsX20))
set_option maxRecDepth 20000 in
theorem tie_wsX11_bottoms : wsX11_bottoms = tk ix_wsX11_bottoms := tk_co rfl (tk_ap (tk_ap (tk_ap (tie_wsX11_bottoms_r1) (tie_wsX11_bottoms_r2)) (tie_wsX110)) (tie_wsX20))
abbrev ix_wsX11_classCount_r1 : List Nat := [27, 382, 383, 384, 26, 385, 82, 85, 84, 83, 386, 155, 156, 14, 157, 158, 387, 388, 389, 390, 391, 201, 202, 203]
set_option maxRecDepth 20000 in
theorem tie_wsX11_classCount_r1 : wsX11_classCount_r1 = tk ix_wsX11_classCount_r1 := rfl
abbrev ix_wsX11_classCount_r2 : List Nat := [392, 393, 394, 395, 396, 275, 276, 277, 50, 200, 397, 296, 297, 298, 51, 398, 399, 400, 401, 402, 2, 403, 404, 405]
set_option maxRecDepth 20000 in
theorem tie_wsX11_classCount_r2 : wsX11_classCount_r2 = tk ix_wsX11_classCount_r2 := rfl
abbrev ix_wsX11_classCount_r3 : List Nat := [406, 407, 408, 409, 410, 411, 320, 321, 237, 230, 231, 232, 49, 412, 234, 235, 236, 413, 414, 415, 416, 417, 418, 419]
set_option maxRecDepth 20000 in
theorem tie_wsX11_classCount_r3 : wsX11_classCount_r3 = tk ix_wsX11_classCount_r3 := rfl
abbrev ix_wsX11_classCount_r4 : List Nat := [420]
set_option maxRecDepth 20000 in
theorem tie_wsX11_classCount_r4 : wsX11_classCount_r4 = tk ix_wsX11_classCount_r4 := rfl
abbrev ix_wsX11_classCount : List Nat := 381 :: (((((ix_wsX11_classCount_r1) ++ ((ix_wsX11_classCount_r2) ++ ((ix_wsX11_classCount_r3) ++ (ix_wsX11_classCount_r4)))) ++ (ix_wsX110)) ++ (ix_wsX70)) ++ (ix_wsX20))
set_option maxRecDepth 20000 in
theorem tie_wsX11_classCount : wsX11_classCount = tk ix_wsX11_classCount := tk_co rfl (tk_ap (tk_ap (tk_ap (tk_ap (tie_wsX11_classCount_r1) (tk_ap (tie_wsX11_classCount_r2) (tk_ap (tie_wsX11_classCount_r3) (tie_wsX11_classCount_r4)))) (tie_wsX110)) (tie_wsX70)) (tie_wsX20))
abbrev ix_wsX7_total : List Nat := 420 :: (([85]) ++ (ix_wsX70))
set_option maxRecDepth 20000 in
theorem tie_wsX7_total : wsX7_total = tk ix_wsX7_total := tk_co rfl (tk_ap (rfl) (tie_wsX70))
abbrev ix_wsX11_classOf_r1 : List Nat := [18, 27, 228, 201, 202, 14, 203, 158, 382, 383, 384, 26, 385, 82, 85, 84, 83, 386, 155, 156, 157, 387, 388, 389]
set_option maxRecDepth 20000 in
theorem tie_wsX11_classOf_r1 : wsX11_classOf_r1 = tk ix_wsX11_classOf_r1 := rfl
abbrev ix_wsX11_classOf_r2 : List Nat := [390, 391, 392, 393, 394, 395, 396, 275, 276, 277, 50, 200, 397, 296, 297, 298, 51, 398, 399, 400, 401, 402, 2, 403]
set_option maxRecDepth 20000 in
theorem tie_wsX11_classOf_r2 : wsX11_classOf_r2 = tk ix_wsX11_classOf_r2 := rfl
abbrev ix_wsX11_classOf_r3 : List Nat := [404, 405, 406, 407, 408, 409, 410, 411, 320, 321, 237, 230, 231, 232, 49, 412, 234, 235, 236, 413, 414, 415, 416, 453]
set_option maxRecDepth 20000 in
theorem tie_wsX11_classOf_r3 : wsX11_classOf_r3 = tk ix_wsX11_classOf_r3 := rfl
abbrev ix_wsX11_classOf : List Nat := 452 :: (((((ix_wsX11_classOf_r1) ++ ((ix_wsX11_classOf_r2) ++ (ix_wsX11_classOf_r3))) ++ (ix_wsX110)) ++ (ix_wsX20)) ++ (ix_wsX70))
set_option maxRecDepth 20000 in
theorem tie_wsX11_classOf : wsX11_classOf = tk ix_wsX11_classOf := tk_co rfl (tk_ap (tk_ap (tk_ap (tk_ap (tie_wsX11_classOf_r1) (tk_ap (tie_wsX11_classOf_r2) (tie_wsX11_classOf_r3))) (tie_wsX110)) (tie_wsX20)) (tie_wsX70))
abbrev ix_wsX11_lumped_r1 : List Nat := [462, 27, 28, 463, 464, 465, 2, 466, 18, 228, 201, 202, 14, 203, 158, 382, 383, 384, 26, 385, 82, 85, 84, 83]
set_option maxRecDepth 20000 in
theorem tie_wsX11_lumped_r1 : wsX11_lumped_r1 = tk ix_wsX11_lumped_r1 := rfl
abbrev ix_wsX11_lumped_r2 : List Nat := [386, 155, 156, 157, 387, 388, 389, 390, 391, 392, 393, 394, 395, 396, 275, 276, 277, 50, 200, 397, 296, 297, 298, 51]
set_option maxRecDepth 20000 in
theorem tie_wsX11_lumped_r2 : wsX11_lumped_r2 = tk ix_wsX11_lumped_r2 := rfl
abbrev ix_wsX11_lumped_r3 : List Nat := [398, 399, 400, 401, 402, 403, 404, 405, 406, 407, 408, 409, 410, 411, 320, 321, 237, 230, 231, 232, 49, 412, 234, 235]
set_option maxRecDepth 20000 in
theorem tie_wsX11_lumped_r3 : wsX11_lumped_r3 = tk ix_wsX11_lumped_r3 := rfl
abbrev ix_wsX11_lumped_r4 : List Nat := [236, 413, 414, 415, 416, 417, 418, 419, 420, 467, 468, 469, 470, 17, 471, 65, 472, 473, 474, 475, 476, 477, 61, 62]
set_option maxRecDepth 20000 in
theorem tie_wsX11_lumped_r4 : wsX11_lumped_r4 = tk ix_wsX11_lumped_r4 := rfl
abbrev ix_wsX11_lumped_r5 : List Nat := [478, 479, 480, 481, 482, 483]
set_option maxRecDepth 20000 in
theorem tie_wsX11_lumped_r5 : wsX11_lumped_r5 = tk ix_wsX11_lumped_r5 := rfl
abbrev ix_wsX11_lumped : List Nat := 461 :: ((((((ix_wsX11_lumped_r1) ++ ((ix_wsX11_lumped_r2) ++ ((ix_wsX11_lumped_r3) ++ ((ix_wsX11_lumped_r4) ++ (ix_wsX11_lumped_r5))))) ++ (ix_wsX110)) ++ (ix_wsX20)) ++ (ix_wsX70)) ++ (ix_wsX80))
set_option maxRecDepth 20000 in
theorem tie_wsX11_lumped : wsX11_lumped = tk ix_wsX11_lumped := tk_co rfl (tk_ap (tk_ap (tk_ap (tk_ap (tk_ap (tie_wsX11_lumped_r1) (tk_ap (tie_wsX11_lumped_r2) (tk_ap (tie_wsX11_lumped_r3) (tk_ap (tie_wsX11_lumped_r4) (tie_wsX11_lumped_r5))))) (tie_wsX110)) (tie_wsX20)) (tie_wsX70)) (tie_wsX80))
abbrev ix_wsX11_asksValue : List Nat := 466 :: ((([18, 228, 201, 202, 14, 203, 158]) ++ (ix_wsX110)) ++ (ix_wsX20))
set_option maxRecDepth 20000 in
theorem tie_wsX11_asksValue : wsX11_asksValue = tk ix_wsX11_asksValue := tk_co rfl (tk_ap (tk_ap (rfl) (tie_wsX110)) (tie_wsX20))
abbrev ix_wsX11_feed_r1 : List Nat := [40, 509, 510, 511, 39, 512, 513, 514, 515, 516, 106, 517, 518, 519, 520, 521, 522, 523, 524, 525, 526, 111, 527, 528]
set_option maxRecDepth 20000 in
theorem tie_wsX11_feed_r1 : wsX11_feed_r1 = tk ix_wsX11_feed_r1 := rfl
abbrev ix_wsX11_feed_r2 : List Nat := [529, 530, 531, 112, 532, 533, 534, 535, 536, 537, 538, 539, 540, 541, 542, 446, 447, 448, 543, 544, 545, 546, 547, 548]
set_option maxRecDepth 20000 in
theorem tie_wsX11_feed_r2 : wsX11_feed_r2 = tk ix_wsX11_feed_r2 := rfl
abbrev ix_wsX11_feed_r3 : List Nat := [549, 550, 551, 552, 553, 554, 555, 556, 110, 557, 558, 559, 560, 185, 186, 187, 561, 562, 563, 564, 565, 109, 566, 567]
set_option maxRecDepth 20000 in
theorem tie_wsX11_feed_r3 : wsX11_feed_r3 = tk ix_wsX11_feed_r3 := rfl
abbrev ix_wsX11_feed_r4 : List Nat := [568, 569, 570, 571, 572, 573, 574, 113, 114, 115, 116, 117, 118, 119, 120, 575, 576, 577, 578, 579, 580, 581, 582, 583]
set_option maxRecDepth 20000 in
theorem tie_wsX11_feed_r4 : wsX11_feed_r4 = tk ix_wsX11_feed_r4 := rfl
abbrev ix_wsX11_feed_r5 : List Nat := [584, 585, 586, 587, 588, 589, 590, 591, 592, 593, 594, 595, 596, 597, 598, 599, 600, 601, 602, 603, 604, 605, 606, 607]
set_option maxRecDepth 20000 in
theorem tie_wsX11_feed_r5 : wsX11_feed_r5 = tk ix_wsX11_feed_r5 := rfl
abbrev ix_wsX11_feed_r6 : List Nat := [608, 609, 610, 611, 612, 613]
set_option maxRecDepth 20000 in
theorem tie_wsX11_feed_r6 : wsX11_feed_r6 = tk ix_wsX11_feed_r6 := rfl
abbrev ix_wsX11_feed : List Nat := 508 :: ((((ix_wsX11_feed_r1) ++ ((ix_wsX11_feed_r2) ++ ((ix_wsX11_feed_r3) ++ ((ix_wsX11_feed_r4) ++ ((ix_wsX11_feed_r5) ++ (ix_wsX11_feed_r6)))))) ++ (ix_wsX110)) ++ (ix_wsJ40))
set_option maxRecDepth 20000 in
theorem tie_wsX11_feed : wsX11_feed = tk ix_wsX11_feed := tk_co rfl (tk_ap (tk_ap (tk_ap (tie_wsX11_feed_r1) (tk_ap (tie_wsX11_feed_r2) (tk_ap (tie_wsX11_feed_r3) (tk_ap (tie_wsX11_feed_r4) (tk_ap (tie_wsX11_feed_r5) (tie_wsX11_feed_r6)))))) (tie_wsX110)) (tie_wsJ40))
abbrev ix_wsJ4_length_8abf5 : List Nat := 512 :: (([513, 514, 515, 516, 106, 517, 518]) ++ (ix_wsJ40))
set_option maxRecDepth 20000 in
theorem tie_wsJ4_length_8abf5 : wsJ4_length_8abf5 = tk ix_wsJ4_length_8abf5 := tk_co rfl (tk_ap (rfl) (tie_wsJ40))
abbrev ix_wsJ4_append_cf468_r1 : List Nat := [523, 524, 515, 525, 106, 526, 518, 111, 527, 528, 529, 530, 531, 112, 532, 533, 534, 535, 536, 537, 538, 539, 540, 541]
set_option maxRecDepth 20000 in
theorem tie_wsJ4_append_cf468_r1 : wsJ4_append_cf468_r1 = tk ix_wsJ4_append_cf468_r1 := rfl
abbrev ix_wsJ4_append_cf468_r2 : List Nat := [542, 446, 447, 448, 543, 544, 545, 546, 547, 548, 549, 550, 551, 552, 553, 554, 555, 556, 110, 557, 558, 559, 560, 185]
set_option maxRecDepth 20000 in
theorem tie_wsJ4_append_cf468_r2 : wsJ4_append_cf468_r2 = tk ix_wsJ4_append_cf468_r2 := rfl
abbrev ix_wsJ4_append_cf468_r3 : List Nat := [186, 187, 561, 562, 563, 564, 565, 109, 566, 567, 568, 569, 570, 571, 572, 573, 574, 113, 114, 115, 116, 117, 118, 119]
set_option maxRecDepth 20000 in
theorem tie_wsJ4_append_cf468_r3 : wsJ4_append_cf468_r3 = tk ix_wsJ4_append_cf468_r3 := rfl
abbrev ix_wsJ4_append_cf468_r4 : List Nat := [120, 575, 576, 577, 578, 579, 580, 581, 582, 583, 584, 585, 586, 587, 588, 589, 590, 591, 592, 593, 594, 595, 596, 597]
set_option maxRecDepth 20000 in
theorem tie_wsJ4_append_cf468_r4 : wsJ4_append_cf468_r4 = tk ix_wsJ4_append_cf468_r4 := rfl
abbrev ix_wsJ4_append_cf468_r5 : List Nat := [598, 599, 600, 601, 602, 603, 604, 605, 606, 607, 608, 609, 610, 611, 612, 613]
set_option maxRecDepth 20000 in
theorem tie_wsJ4_append_cf468_r5 : wsJ4_append_cf468_r5 = tk ix_wsJ4_append_cf468_r5 := rfl
abbrev ix_wsJ4_append_cf468 : List Nat := 522 :: (((ix_wsJ4_append_cf468_r1) ++ ((ix_wsJ4_append_cf468_r2) ++ ((ix_wsJ4_append_cf468_r3) ++ ((ix_wsJ4_append_cf468_r4) ++ (ix_wsJ4_append_cf468_r5))))) ++ (ix_wsJ40))
set_option maxRecDepth 20000 in
theorem tie_wsJ4_append_cf468 : wsJ4_append_cf468 = tk ix_wsJ4_append_cf468 := tk_co rfl (tk_ap (tk_ap (tie_wsJ4_append_cf468_r1) (tk_ap (tie_wsJ4_append_cf468_r2) (tk_ap (tie_wsJ4_append_cf468_r3) (tk_ap (tie_wsJ4_append_cf468_r4) (tie_wsJ4_append_cf468_r5))))) (tie_wsJ40))
abbrev ix_wsX11_addFormula_r1 : List Nat := [40, 623, 624, 625, 43, 42, 41, 626, 627, 628, 629, 630, 39, 631, 632, 633, 589, 634, 635, 636, 637, 638, 639, 640]
set_option maxRecDepth 20000 in
theorem tie_wsX11_addFormula_r1 : wsX11_addFormula_r1 = tk ix_wsX11_addFormula_r1 := rfl
abbrev ix_wsX11_addFormula_r2 : List Nat := [10, 11, 641, 642, 643, 644, 645, 646, 647, 648, 106, 649, 111, 650, 514, 651, 652, 510, 512, 513, 515, 516, 517, 518]
set_option maxRecDepth 20000 in
theorem tie_wsX11_addFormula_r2 : wsX11_addFormula_r2 = tk ix_wsX11_addFormula_r2 := rfl
abbrev ix_wsX11_addFormula_r3 : List Nat := [653, 562, 563, 564, 565, 109, 112, 654, 655, 549, 656, 551, 552, 553, 554, 555, 556, 657, 658, 659, 110, 557, 558, 447]
set_option maxRecDepth 20000 in
theorem tie_wsX11_addFormula_r3 : wsX11_addFormula_r3 = tk ix_wsX11_addFormula_r3 := rfl
abbrev ix_wsX11_addFormula_r4 : List Nat := [559, 560, 185, 186, 187, 660, 661, 662, 663, 664, 115, 665, 666, 667, 668, 581, 582, 583, 584, 585, 586, 587, 588, 590]
set_option maxRecDepth 20000 in
theorem tie_wsX11_addFormula_r4 : wsX11_addFormula_r4 = tk ix_wsX11_addFormula_r4 := rfl
abbrev ix_wsX11_addFormula_r5 : List Nat := [591, 592, 593, 594, 595, 669, 670, 671, 599, 600, 601, 117, 118, 119, 120, 672, 673, 674, 675, 676, 677, 678, 679, 680]
set_option maxRecDepth 20000 in
theorem tie_wsX11_addFormula_r5 : wsX11_addFormula_r5 = tk ix_wsX11_addFormula_r5 := rfl
abbrev ix_wsX11_addFormula_r6 : List Nat := [681, 682, 683, 684, 527, 528, 529, 530, 531, 532, 533, 534, 535, 536, 537, 538, 539, 540, 541, 542, 446, 448, 543, 544]
set_option maxRecDepth 20000 in
theorem tie_wsX11_addFormula_r6 : wsX11_addFormula_r6 = tk ix_wsX11_addFormula_r6 := rfl
abbrev ix_wsX11_addFormula_r7 : List Nat := [545, 546, 547, 548, 550, 561, 685, 686, 568, 687, 688, 689, 690, 691, 692, 693, 694, 695, 696, 697, 698, 699, 700, 701]
set_option maxRecDepth 20000 in
theorem tie_wsX11_addFormula_r7 : wsX11_addFormula_r7 = tk ix_wsX11_addFormula_r7 := rfl
abbrev ix_wsX11_addFormula_r8 : List Nat := [702, 703, 704, 705, 706, 707, 708, 709, 710, 711, 712, 713, 714, 715, 716, 717, 718, 719, 720, 721, 722, 723, 724, 725]
set_option maxRecDepth 20000 in
theorem tie_wsX11_addFormula_r8 : wsX11_addFormula_r8 = tk ix_wsX11_addFormula_r8 := rfl
abbrev ix_wsX11_addFormula_r9 : List Nat := [726, 727, 728, 729, 730, 731, 732, 733, 734, 735, 609, 610, 611, 612, 613, 736, 737, 738, 605, 606, 607, 608, 739, 740]
set_option maxRecDepth 20000 in
theorem tie_wsX11_addFormula_r9 : wsX11_addFormula_r9 = tk ix_wsX11_addFormula_r9 := rfl
abbrev ix_wsX11_addFormula_r10 : List Nat := [741, 742, 743, 744, 745, 746, 747, 748, 749, 750, 751, 752, 753, 754, 755, 756, 757, 758, 759, 760, 761, 762, 763, 764]
set_option maxRecDepth 20000 in
theorem tie_wsX11_addFormula_r10 : wsX11_addFormula_r10 = tk ix_wsX11_addFormula_r10 := rfl
abbrev ix_wsX11_addFormula_r11 : List Nat := [765, 766, 767, 768, 769, 770, 771, 772, 773, 774, 775, 776, 777, 778, 779, 780, 781, 782, 783, 784, 785, 786, 787, 788]
set_option maxRecDepth 20000 in
theorem tie_wsX11_addFormula_r11 : wsX11_addFormula_r11 = tk ix_wsX11_addFormula_r11 := rfl
abbrev ix_wsX11_addFormula_r12 : List Nat := [789, 790, 791, 792, 793, 794, 795, 796, 797, 798, 799, 800, 801, 802, 803, 804, 805, 806, 807, 808]
set_option maxRecDepth 20000 in
theorem tie_wsX11_addFormula_r12 : wsX11_addFormula_r12 = tk ix_wsX11_addFormula_r12 := rfl
abbrev ix_wsX11_addFormula : List Nat := 622 :: (((((((((ix_wsX11_addFormula_r1) ++ ((ix_wsX11_addFormula_r2) ++ ((ix_wsX11_addFormula_r3) ++ ((ix_wsX11_addFormula_r4) ++ ((ix_wsX11_addFormula_r5) ++ ((ix_wsX11_addFormula_r6) ++ ((ix_wsX11_addFormula_r7) ++ ((ix_wsX11_addFormula_r8) ++ ((ix_wsX11_addFormula_r9) ++ ((ix_wsX11_addFormula_r10) ++ ((ix_wsX11_addFormula_r11) ++ (ix_wsX11_addFormula_r12)))))))))))) ++ (ix_wsX110)) ++ (ix_wsX100)) ++ (ix_wsX50)) ++ (ix_wsJ00)) ++ (ix_wsJ40)) ++ (ix_wsX90)) ++ (ix_wsX10))
set_option maxRecDepth 20000 in
theorem tie_wsX11_addFormula : wsX11_addFormula = tk ix_wsX11_addFormula := tk_co rfl (tk_ap (tk_ap (tk_ap (tk_ap (tk_ap (tk_ap (tk_ap (tk_ap (tie_wsX11_addFormula_r1) (tk_ap (tie_wsX11_addFormula_r2) (tk_ap (tie_wsX11_addFormula_r3) (tk_ap (tie_wsX11_addFormula_r4) (tk_ap (tie_wsX11_addFormula_r5) (tk_ap (tie_wsX11_addFormula_r6) (tk_ap (tie_wsX11_addFormula_r7) (tk_ap (tie_wsX11_addFormula_r8) (tk_ap (tie_wsX11_addFormula_r9) (tk_ap (tie_wsX11_addFormula_r10) (tk_ap (tie_wsX11_addFormula_r11) (tie_wsX11_addFormula_r12)))))))))))) (tie_wsX110)) (tie_wsX100)) (tie_wsX50)) (tie_wsJ00)) (tie_wsJ40)) (tie_wsX90)) (tie_wsX10))
abbrev ix_wsJ4_toString_0e30d_r1 : List Nat := [632, 633, 589, 634, 635, 636, 637, 638, 639, 640, 10, 11, 641, 642, 643, 644, 645, 646, 647, 648, 106, 649, 111, 650]
set_option maxRecDepth 20000 in
theorem tie_wsJ4_toString_0e30d_r1 : wsJ4_toString_0e30d_r1 = tk ix_wsJ4_toString_0e30d_r1 := rfl
abbrev ix_wsJ4_toString_0e30d_r2 : List Nat := [514, 651, 652, 510, 39, 512, 513, 515, 516, 517, 518, 653, 562, 563, 564, 565, 109, 112, 654, 655, 549, 656, 551, 552]
set_option maxRecDepth 20000 in
theorem tie_wsJ4_toString_0e30d_r2 : wsJ4_toString_0e30d_r2 = tk ix_wsJ4_toString_0e30d_r2 := rfl
abbrev ix_wsJ4_toString_0e30d_r3 : List Nat := [553, 554, 555, 556, 657, 658, 659, 110, 557, 558, 447, 559, 560, 185, 186, 187, 660, 661, 662, 663, 664, 115, 665, 666]
set_option maxRecDepth 20000 in
theorem tie_wsJ4_toString_0e30d_r3 : wsJ4_toString_0e30d_r3 = tk ix_wsJ4_toString_0e30d_r3 := rfl
abbrev ix_wsJ4_toString_0e30d_r4 : List Nat := [667, 668, 581, 582, 583, 584, 585, 586, 587, 588, 590, 591, 592, 593, 594, 595, 669, 670, 671, 599, 600, 601, 117, 118]
set_option maxRecDepth 20000 in
theorem tie_wsJ4_toString_0e30d_r4 : wsJ4_toString_0e30d_r4 = tk ix_wsJ4_toString_0e30d_r4 := rfl
abbrev ix_wsJ4_toString_0e30d_r5 : List Nat := [119, 120, 672, 673, 674, 675]
set_option maxRecDepth 20000 in
theorem tie_wsJ4_toString_0e30d_r5 : wsJ4_toString_0e30d_r5 = tk ix_wsJ4_toString_0e30d_r5 := rfl
abbrev ix_wsJ4_toString_0e30d : List Nat := 631 :: ((((ix_wsJ4_toString_0e30d_r1) ++ ((ix_wsJ4_toString_0e30d_r2) ++ ((ix_wsJ4_toString_0e30d_r3) ++ ((ix_wsJ4_toString_0e30d_r4) ++ (ix_wsJ4_toString_0e30d_r5))))) ++ (ix_wsJ00)) ++ (ix_wsJ40))
set_option maxRecDepth 20000 in
theorem tie_wsJ4_toString_0e30d : wsJ4_toString_0e30d = tk ix_wsJ4_toString_0e30d := tk_co rfl (tk_ap (tk_ap (tk_ap (tie_wsJ4_toString_0e30d_r1) (tk_ap (tie_wsJ4_toString_0e30d_r2) (tk_ap (tie_wsJ4_toString_0e30d_r3) (tk_ap (tie_wsJ4_toString_0e30d_r4) (tie_wsJ4_toString_0e30d_r5))))) (tie_wsJ00)) (tie_wsJ40))
abbrev ix_wsJ4_setLength_d00df_r1 : List Nat := [680, 681, 515, 682, 106, 683, 518, 111, 684, 527, 528, 529, 530, 531, 112, 532, 533, 534, 535, 536, 537, 538, 539, 540]
set_option maxRecDepth 20000 in
theorem tie_wsJ4_setLength_d00df_r1 : wsJ4_setLength_d00df_r1 = tk ix_wsJ4_setLength_d00df_r1 := rfl
