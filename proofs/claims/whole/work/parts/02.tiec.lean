abbrev ix_wsX10_peek_r1 : List Nat := [694, 693, 692, 705, 706, 707, 579, 708, 632, 709, 710, 711, 712, 633, 631, 713, 714, 715, 716, 717, 718, 719, 720, 721]
set_option maxRecDepth 20000 in
theorem tie_wsX10_peek_r1 : wsX10_peek_r1 = tk ix_wsX10_peek_r1 := rfl
abbrev ix_wsX10_peek_r2 : List Nat := [722, 558, 723, 724, 599, 600, 581, 601, 602, 584, 603, 725, 726, 105, 727, 595, 596, 597, 574, 575, 576, 598, 659, 660]
set_option maxRecDepth 20000 in
theorem tie_wsX10_peek_r2 : wsX10_peek_r2 = tk ix_wsX10_peek_r2 := rfl
abbrev ix_wsX10_peek_r3 : List Nat := [661, 589, 590, 591]
set_option maxRecDepth 20000 in
theorem tie_wsX10_peek_r3 : wsX10_peek_r3 = tk ix_wsX10_peek_r3 := rfl
abbrev ix_wsX10_peek : List Nat := 704 :: ((((ix_wsX10_peek_r1) ++ ((ix_wsX10_peek_r2) ++ (ix_wsX10_peek_r3))) ++ (ix_wsX100)) ++ (ix_wsJ00))
set_option maxRecDepth 20000 in
theorem tie_wsX10_peek : wsX10_peek = tk ix_wsX10_peek := tk_co rfl (tk_ap (tk_ap (tk_ap (tie_wsX10_peek_r1) (tk_ap (tie_wsX10_peek_r2) (tie_wsX10_peek_r3))) (tie_wsX100)) (tie_wsJ00))
abbrev ix_wsX9_init : List Nat := 730 :: (([731, 10, 11, 732, 733, 734, 735, 736, 737, 738, 436, 437, 438, 739]) ++ (ix_wsX90))
set_option maxRecDepth 20000 in
theorem tie_wsX9_init : wsX9_init = tk ix_wsX9_init := tk_co rfl (tk_ap (rfl) (tie_wsX90))
abbrev ix_wsX10_skip_r1 : List Nat := [694, 693, 701, 702, 703, 615, 704, 692, 705, 706, 707, 579, 708, 632, 709, 710, 711, 712, 633, 631, 713, 714, 715, 716]
set_option maxRecDepth 20000 in
theorem tie_wsX10_skip_r1 : wsX10_skip_r1 = tk ix_wsX10_skip_r1 := rfl
abbrev ix_wsX10_skip_r2 : List Nat := [717, 718, 719, 720, 721, 722, 558, 723, 724, 599, 600, 581, 601, 602, 584, 603, 725, 726, 105, 727, 595, 596, 597, 574]
set_option maxRecDepth 20000 in
theorem tie_wsX10_skip_r2 : wsX10_skip_r2 = tk ix_wsX10_skip_r2 := rfl
abbrev ix_wsX10_skip_r3 : List Nat := [575, 576, 598, 659, 660, 661, 589, 590, 591]
set_option maxRecDepth 20000 in
theorem tie_wsX10_skip_r3 : wsX10_skip_r3 = tk ix_wsX10_skip_r3 := rfl
abbrev ix_wsX10_skip : List Nat := 743 :: ((((ix_wsX10_skip_r1) ++ ((ix_wsX10_skip_r2) ++ (ix_wsX10_skip_r3))) ++ (ix_wsX100)) ++ (ix_wsJ00))
set_option maxRecDepth 20000 in
theorem tie_wsX10_skip : wsX10_skip = tk ix_wsX10_skip := tk_co rfl (tk_ap (tk_ap (tk_ap (tie_wsX10_skip_r1) (tk_ap (tie_wsX10_skip_r2) (tie_wsX10_skip_r3))) (tie_wsX100)) (tie_wsJ00))
abbrev ix_wsX10_readOpposite_r1 : List Nat := [698, 699, 700, 780, 695, 696, 615, 728, 729, 730, 731, 10, 11, 732, 733, 734, 735, 736, 737, 738, 436, 437, 438, 739]
set_option maxRecDepth 20000 in
theorem tie_wsX10_readOpposite_r1 : wsX10_readOpposite_r1 = tk ix_wsX10_readOpposite_r1 := rfl
abbrev ix_wsX10_readOpposite_r2 : List Nat := [756, 757, 758, 759, 760, 694, 693, 761, 762, 763, 740, 741, 742, 743, 701, 702, 703, 704, 692, 705, 706, 707, 579, 708]
set_option maxRecDepth 20000 in
theorem tie_wsX10_readOpposite_r2 : wsX10_readOpposite_r2 = tk ix_wsX10_readOpposite_r2 := rfl
abbrev ix_wsX10_readOpposite_r3 : List Nat := [632, 709, 710, 711, 712, 633, 631, 713, 714, 715, 716, 717, 718, 719, 720, 721, 722, 558, 723, 724, 599, 600, 581, 601]
set_option maxRecDepth 20000 in
theorem tie_wsX10_readOpposite_r3 : wsX10_readOpposite_r3 = tk ix_wsX10_readOpposite_r3 := rfl
abbrev ix_wsX10_readOpposite_r4 : List Nat := [602, 584, 603, 725, 726, 105, 727, 595, 596, 597, 574, 575, 576, 598, 659, 660, 661, 589, 590, 591, 764, 765, 766, 767]
set_option maxRecDepth 20000 in
theorem tie_wsX10_readOpposite_r4 : wsX10_readOpposite_r4 = tk ix_wsX10_readOpposite_r4 := rfl
abbrev ix_wsX10_readOpposite_r5 : List Nat := [768, 769, 770, 771, 772, 773, 774, 775, 776, 777, 778, 779, 697, 744, 745, 746, 747, 748, 749, 750, 751, 752, 753, 754]
set_option maxRecDepth 20000 in
theorem tie_wsX10_readOpposite_r5 : wsX10_readOpposite_r5 = tk ix_wsX10_readOpposite_r5 := rfl
abbrev ix_wsX10_readOpposite_r6 : List Nat := [755, 782, 783, 784, 785, 786, 787]
set_option maxRecDepth 20000 in
theorem tie_wsX10_readOpposite_r6 : wsX10_readOpposite_r6 = tk ix_wsX10_readOpposite_r6 := rfl
abbrev ix_wsX10_readOpposite : List Nat := 781 :: ((((((ix_wsX10_readOpposite_r1) ++ ((ix_wsX10_readOpposite_r2) ++ ((ix_wsX10_readOpposite_r3) ++ ((ix_wsX10_readOpposite_r4) ++ ((ix_wsX10_readOpposite_r5) ++ (ix_wsX10_readOpposite_r6)))))) ++ (ix_wsX90)) ++ (ix_wsX100)) ++ (ix_wsX10)) ++ (ix_wsJ00))
set_option maxRecDepth 20000 in
theorem tie_wsX10_readOpposite : wsX10_readOpposite = tk ix_wsX10_readOpposite := tk_co rfl (tk_ap (tk_ap (tk_ap (tk_ap (tk_ap (tie_wsX10_readOpposite_r1) (tk_ap (tie_wsX10_readOpposite_r2) (tk_ap (tie_wsX10_readOpposite_r3) (tk_ap (tie_wsX10_readOpposite_r4) (tk_ap (tie_wsX10_readOpposite_r5) (tie_wsX10_readOpposite_r6)))))) (tie_wsX90)) (tie_wsX100)) (tie_wsX10)) (tie_wsJ00))
abbrev ix_wsX10_readPair_r1 : List Nat := [698, 699, 700, 780, 695, 696, 615, 740, 741, 742, 743, 694, 693, 701, 702, 703, 704, 692, 705, 706, 707, 579, 708, 632]
set_option maxRecDepth 20000 in
theorem tie_wsX10_readPair_r1 : wsX10_readPair_r1 = tk ix_wsX10_readPair_r1 := rfl
abbrev ix_wsX10_readPair_r2 : List Nat := [709, 710, 711, 712, 633, 631, 713, 714, 715, 716, 717, 718, 719, 720, 721, 722, 558, 723, 724, 599, 600, 581, 601, 602]
set_option maxRecDepth 20000 in
theorem tie_wsX10_readPair_r2 : wsX10_readPair_r2 = tk ix_wsX10_readPair_r2 := rfl
abbrev ix_wsX10_readPair_r3 : List Nat := [584, 603, 725, 726, 105, 727, 595, 596, 597, 574, 575, 576, 598, 659, 660, 661, 589, 590, 591, 764, 765, 766, 767, 728]
set_option maxRecDepth 20000 in
theorem tie_wsX10_readPair_r3 : wsX10_readPair_r3 = tk ix_wsX10_readPair_r3 := rfl
abbrev ix_wsX10_readPair_r4 : List Nat := [729, 730, 731, 10, 11, 732, 733, 734, 735, 736, 737, 738, 436, 437, 438, 739, 756, 757, 758, 759, 760, 761, 762, 763]
set_option maxRecDepth 20000 in
theorem tie_wsX10_readPair_r4 : wsX10_readPair_r4 = tk ix_wsX10_readPair_r4 := rfl
abbrev ix_wsX10_readPair_r5 : List Nat := [768, 769, 770, 771, 772, 773, 774, 775, 776, 777, 778, 779, 697, 744, 745, 746, 747, 748, 749, 750, 751, 752, 753, 754]
set_option maxRecDepth 20000 in
theorem tie_wsX10_readPair_r5 : wsX10_readPair_r5 = tk ix_wsX10_readPair_r5 := rfl
abbrev ix_wsX10_readPair_r6 : List Nat := [755, 781, 783, 784, 785, 786, 787]
set_option maxRecDepth 20000 in
theorem tie_wsX10_readPair_r6 : wsX10_readPair_r6 = tk ix_wsX10_readPair_r6 := rfl
abbrev ix_wsX10_readPair : List Nat := 782 :: ((((((ix_wsX10_readPair_r1) ++ ((ix_wsX10_readPair_r2) ++ ((ix_wsX10_readPair_r3) ++ ((ix_wsX10_readPair_r4) ++ ((ix_wsX10_readPair_r5) ++ (ix_wsX10_readPair_r6)))))) ++ (ix_wsX90)) ++ (ix_wsX100)) ++ (ix_wsX10)) ++ (ix_wsJ00))
set_option maxRecDepth 20000 in
theorem tie_wsX10_readPair : wsX10_readPair = tk ix_wsX10_readPair := tk_co rfl (tk_ap (tk_ap (tk_ap (tk_ap (tk_ap (tie_wsX10_readPair_r1) (tk_ap (tie_wsX10_readPair_r2) (tk_ap (tie_wsX10_readPair_r3) (tk_ap (tie_wsX10_readPair_r4) (tk_ap (tie_wsX10_readPair_r5) (tie_wsX10_readPair_r6)))))) (tie_wsX90)) (tie_wsX100)) (tie_wsX10)) (tie_wsJ00))
abbrev ix_wsX10_readProbability_r1 : List Nat := [694, 698, 699, 700, 757, 758, 759, 615, 760, 693, 761, 762, 763, 740, 741, 742, 743, 701, 702, 703, 704, 692, 705, 706]
set_option maxRecDepth 20000 in
theorem tie_wsX10_readProbability_r1 : wsX10_readProbability_r1 = tk ix_wsX10_readProbability_r1 := rfl
abbrev ix_wsX10_readProbability_r2 : List Nat := [707, 579, 708, 632, 709, 710, 711, 712, 633, 631, 713, 714, 715, 716, 717, 718, 719, 720, 721, 722, 558, 723, 724, 599]
set_option maxRecDepth 20000 in
theorem tie_wsX10_readProbability_r2 : wsX10_readProbability_r2 = tk ix_wsX10_readProbability_r2 := rfl
abbrev ix_wsX10_readProbability_r3 : List Nat := [600, 581, 601, 602, 584, 603, 725, 726, 105, 727, 595, 596, 597, 574, 575, 576, 598, 659, 660, 661, 589, 590, 591, 764]
set_option maxRecDepth 20000 in
theorem tie_wsX10_readProbability_r3 : wsX10_readProbability_r3 = tk ix_wsX10_readProbability_r3 := rfl
abbrev ix_wsX10_readProbability_r4 : List Nat := [765, 766, 767, 768, 769, 770, 771, 772, 773, 774, 775, 10, 11, 776, 777, 778, 779, 784, 785, 786, 787, 780, 695, 696]
set_option maxRecDepth 20000 in
theorem tie_wsX10_readProbability_r4 : wsX10_readProbability_r4 = tk ix_wsX10_readProbability_r4 := rfl
abbrev ix_wsX10_readProbability_r5 : List Nat := [728, 729, 730, 731, 732, 733, 734, 735, 736, 737, 738, 436, 437, 438, 739, 756, 697, 744, 745, 746, 747, 748, 749, 750]
set_option maxRecDepth 20000 in
theorem tie_wsX10_readProbability_r5 : wsX10_readProbability_r5 = tk ix_wsX10_readProbability_r5 := rfl
abbrev ix_wsX10_readProbability_r6 : List Nat := [751, 752, 753, 754, 755, 781, 782]
set_option maxRecDepth 20000 in
theorem tie_wsX10_readProbability_r6 : wsX10_readProbability_r6 = tk ix_wsX10_readProbability_r6 := rfl
abbrev ix_wsX10_readProbability : List Nat := 783 :: ((((((ix_wsX10_readProbability_r1) ++ ((ix_wsX10_readProbability_r2) ++ ((ix_wsX10_readProbability_r3) ++ ((ix_wsX10_readProbability_r4) ++ ((ix_wsX10_readProbability_r5) ++ (ix_wsX10_readProbability_r6)))))) ++ (ix_wsX90)) ++ (ix_wsX100)) ++ (ix_wsX10)) ++ (ix_wsJ00))
set_option maxRecDepth 20000 in
theorem tie_wsX10_readProbability : wsX10_readProbability = tk ix_wsX10_readProbability := tk_co rfl (tk_ap (tk_ap (tk_ap (tk_ap (tk_ap (tie_wsX10_readProbability_r1) (tk_ap (tie_wsX10_readProbability_r2) (tk_ap (tie_wsX10_readProbability_r3) (tk_ap (tie_wsX10_readProbability_r4) (tk_ap (tie_wsX10_readProbability_r5) (tie_wsX10_readProbability_r6)))))) (tie_wsX90)) (tie_wsX100)) (tie_wsX10)) (tie_wsJ00))
abbrev ix_wsX10_readBounded_r1 : List Nat := [698, 699, 700, 757, 758, 759, 615, 760, 694, 693, 761, 762, 763, 740, 741, 742, 743, 701, 702, 703, 704, 692, 705, 706]
set_option maxRecDepth 20000 in
theorem tie_wsX10_readBounded_r1 : wsX10_readBounded_r1 = tk ix_wsX10_readBounded_r1 := rfl
abbrev ix_wsX10_readBounded_r2 : List Nat := [707, 579, 708, 632, 709, 710, 711, 712, 633, 631, 713, 714, 715, 716, 717, 718, 719, 720, 721, 722, 558, 723, 724, 599]
set_option maxRecDepth 20000 in
theorem tie_wsX10_readBounded_r2 : wsX10_readBounded_r2 = tk ix_wsX10_readBounded_r2 := rfl
abbrev ix_wsX10_readBounded_r3 : List Nat := [600, 581, 601, 602, 584, 603, 725, 726, 105, 727, 595, 596, 597, 574, 575, 576, 598, 659, 660, 661, 589, 590, 591, 764]
set_option maxRecDepth 20000 in
theorem tie_wsX10_readBounded_r3 : wsX10_readBounded_r3 = tk ix_wsX10_readBounded_r3 := rfl
abbrev ix_wsX10_readBounded_r4 : List Nat := [765, 766, 767, 768, 769, 770, 771, 772, 773, 774, 775, 10, 11, 776, 777, 778, 779, 780, 695, 696, 728, 729, 730, 731]
set_option maxRecDepth 20000 in
theorem tie_wsX10_readBounded_r4 : wsX10_readBounded_r4 = tk ix_wsX10_readBounded_r4 := rfl
abbrev ix_wsX10_readBounded_r5 : List Nat := [732, 733, 734, 735, 736, 737, 738, 436, 437, 438, 739, 697, 744, 745, 746, 747, 748, 749, 750, 751, 752, 753, 754, 755]
set_option maxRecDepth 20000 in
theorem tie_wsX10_readBounded_r5 : wsX10_readBounded_r5 = tk ix_wsX10_readBounded_r5 := rfl
abbrev ix_wsX10_readBounded_r6 : List Nat := [781, 782, 783, 784, 785, 786, 787]
set_option maxRecDepth 20000 in
theorem tie_wsX10_readBounded_r6 : wsX10_readBounded_r6 = tk ix_wsX10_readBounded_r6 := rfl
abbrev ix_wsX10_readBounded : List Nat := 756 :: ((((((ix_wsX10_readBounded_r1) ++ ((ix_wsX10_readBounded_r2) ++ ((ix_wsX10_readBounded_r3) ++ ((ix_wsX10_readBounded_r4) ++ ((ix_wsX10_readBounded_r5) ++ (ix_wsX10_readBounded_r6)))))) ++ (ix_wsX90)) ++ (ix_wsX100)) ++ (ix_wsX10)) ++ (ix_wsJ00))
set_option maxRecDepth 20000 in
theorem tie_wsX10_readBounded : wsX10_readBounded = tk ix_wsX10_readBounded := tk_co rfl (tk_ap (tk_ap (tk_ap (tk_ap (tk_ap (tie_wsX10_readBounded_r1) (tk_ap (tie_wsX10_readBounded_r2) (tk_ap (tie_wsX10_readBounded_r3) (tk_ap (tie_wsX10_readBounded_r4) (tk_ap (tie_wsX10_readBounded_r5) (tie_wsX10_readBounded_r6)))))) (tie_wsX90)) (tie_wsX100)) (tie_wsX10)) (tie_wsJ00))
abbrev ix_wsX10_expect_r1 : List Nat := [694, 740, 741, 742, 615, 743, 693, 701, 702, 703, 704, 692, 705, 706, 707, 579, 708, 632, 709, 710, 711, 712, 633, 631]
set_option maxRecDepth 20000 in
theorem tie_wsX10_expect_r1 : wsX10_expect_r1 = tk ix_wsX10_expect_r1 := rfl
abbrev ix_wsX10_expect_r2 : List Nat := [713, 714, 715, 716, 717, 718, 719, 720, 721, 722, 558, 723, 724, 599, 600, 581, 601, 602, 584, 603, 725, 726, 105, 727]
set_option maxRecDepth 20000 in
theorem tie_wsX10_expect_r2 : wsX10_expect_r2 = tk ix_wsX10_expect_r2 := rfl
abbrev ix_wsX10_expect_r3 : List Nat := [595, 596, 597, 574, 575, 576, 598, 659, 660, 661, 589, 590, 591]
set_option maxRecDepth 20000 in
theorem tie_wsX10_expect_r3 : wsX10_expect_r3 = tk ix_wsX10_expect_r3 := rfl
abbrev ix_wsX10_expect : List Nat := 767 :: ((((ix_wsX10_expect_r1) ++ ((ix_wsX10_expect_r2) ++ (ix_wsX10_expect_r3))) ++ (ix_wsX100)) ++ (ix_wsJ00))
set_option maxRecDepth 20000 in
theorem tie_wsX10_expect : wsX10_expect = tk ix_wsX10_expect := tk_co rfl (tk_ap (tk_ap (tk_ap (tie_wsX10_expect_r1) (tk_ap (tie_wsX10_expect_r2) (tie_wsX10_expect_r3))) (tie_wsX100)) (tie_wsJ00))
abbrev ix_wsX10_readBound_r1 : List Nat := [694, 693, 761, 762, 763, 740, 741, 742, 615, 743, 701, 702, 703, 704, 692, 705, 706, 707, 579, 708, 632, 709, 710, 711]
set_option maxRecDepth 20000 in
theorem tie_wsX10_readBound_r1 : wsX10_readBound_r1 = tk ix_wsX10_readBound_r1 := rfl
abbrev ix_wsX10_readBound_r2 : List Nat := [712, 633, 631, 713, 714, 715, 716, 717, 718, 719, 720, 721, 722, 558, 723, 724, 599, 600, 581, 601, 602, 584, 603, 725]
set_option maxRecDepth 20000 in
theorem tie_wsX10_readBound_r2 : wsX10_readBound_r2 = tk ix_wsX10_readBound_r2 := rfl
abbrev ix_wsX10_readBound_r3 : List Nat := [726, 105, 727, 595, 596, 597, 574, 575, 576, 598, 659, 660, 661, 589, 590, 591, 764, 765, 766, 767, 768, 769, 770, 771]
set_option maxRecDepth 20000 in
theorem tie_wsX10_readBound_r3 : wsX10_readBound_r3 = tk ix_wsX10_readBound_r3 := rfl
abbrev ix_wsX10_readBound_r4 : List Nat := [772, 773, 774, 775, 10, 11, 776, 777, 778, 779]
set_option maxRecDepth 20000 in
theorem tie_wsX10_readBound_r4 : wsX10_readBound_r4 = tk ix_wsX10_readBound_r4 := rfl
abbrev ix_wsX10_readBound : List Nat := 760 :: (((((ix_wsX10_readBound_r1) ++ ((ix_wsX10_readBound_r2) ++ ((ix_wsX10_readBound_r3) ++ (ix_wsX10_readBound_r4)))) ++ (ix_wsX100)) ++ (ix_wsX10)) ++ (ix_wsJ00))
set_option maxRecDepth 20000 in
theorem tie_wsX10_readBound : wsX10_readBound = tk ix_wsX10_readBound := tk_co rfl (tk_ap (tk_ap (tk_ap (tk_ap (tie_wsX10_readBound_r1) (tk_ap (tie_wsX10_readBound_r2) (tk_ap (tie_wsX10_readBound_r3) (tie_wsX10_readBound_r4)))) (tie_wsX100)) (tie_wsX10)) (tie_wsJ00))
abbrev ix_wsX10_readSteps_r1 : List Nat := [694, 693, 701, 702, 703, 615, 704, 692, 705, 706, 707, 579, 708, 632, 709, 710, 711, 712, 633, 631, 713, 714, 715, 716]
set_option maxRecDepth 20000 in
theorem tie_wsX10_readSteps_r1 : wsX10_readSteps_r1 = tk ix_wsX10_readSteps_r1 := rfl
abbrev ix_wsX10_readSteps_r2 : List Nat := [717, 718, 719, 720, 721, 722, 558, 723, 724, 599, 600, 581, 601, 602, 584, 603, 725, 726, 105, 727, 595, 596, 597, 574]
set_option maxRecDepth 20000 in
theorem tie_wsX10_readSteps_r2 : wsX10_readSteps_r2 = tk ix_wsX10_readSteps_r2 := rfl
abbrev ix_wsX10_readSteps_r3 : List Nat := [575, 576, 598, 659, 660, 661, 589, 590, 591]
set_option maxRecDepth 20000 in
theorem tie_wsX10_readSteps_r3 : wsX10_readSteps_r3 = tk ix_wsX10_readSteps_r3 := rfl
abbrev ix_wsX10_readSteps : List Nat := 787 :: ((((ix_wsX10_readSteps_r1) ++ ((ix_wsX10_readSteps_r2) ++ (ix_wsX10_readSteps_r3))) ++ (ix_wsX100)) ++ (ix_wsJ00))
set_option maxRecDepth 20000 in
theorem tie_wsX10_readSteps : wsX10_readSteps = tk ix_wsX10_readSteps := tk_co rfl (tk_ap (tk_ap (tk_ap (tie_wsX10_readSteps_r1) (tk_ap (tie_wsX10_readSteps_r2) (tie_wsX10_readSteps_r3))) (tie_wsX100)) (tie_wsJ00))
abbrev ix_wsX10_readNumber_r1 : List Nat := [693, 694, 701, 702, 703, 615, 704, 692, 705, 706, 707, 579, 708, 632, 709, 710, 711, 712, 633, 631, 713, 714, 715, 716]
set_option maxRecDepth 20000 in
theorem tie_wsX10_readNumber_r1 : wsX10_readNumber_r1 = tk ix_wsX10_readNumber_r1 := rfl
abbrev ix_wsX10_readNumber_r2 : List Nat := [717, 718, 719, 720, 721, 722, 558, 723, 724, 599, 600, 581, 601, 602, 584, 603, 725, 726, 105, 727, 595, 596, 597, 574]
set_option maxRecDepth 20000 in
theorem tie_wsX10_readNumber_r2 : wsX10_readNumber_r2 = tk ix_wsX10_readNumber_r2 := rfl
abbrev ix_wsX10_readNumber_r3 : List Nat := [575, 576, 598, 659, 660, 661, 589, 590, 591]
set_option maxRecDepth 20000 in
theorem tie_wsX10_readNumber_r3 : wsX10_readNumber_r3 = tk ix_wsX10_readNumber_r3 := rfl
abbrev ix_wsX10_readNumber : List Nat := 771 :: ((((ix_wsX10_readNumber_r1) ++ ((ix_wsX10_readNumber_r2) ++ (ix_wsX10_readNumber_r3))) ++ (ix_wsX100)) ++ (ix_wsJ00))
set_option maxRecDepth 20000 in
theorem tie_wsX10_readNumber : wsX10_readNumber = tk ix_wsX10_readNumber := tk_co rfl (tk_ap (tk_ap (tk_ap (tie_wsX10_readNumber_r1) (tk_ap (tie_wsX10_readNumber_r2) (tie_wsX10_readNumber_r3))) (tie_wsX100)) (tie_wsJ00))
abbrev ix_wsX1_init : List Nat := 774 :: (([775, 10, 11, 776, 777, 778, 779]) ++ (ix_wsX10))
set_option maxRecDepth 20000 in
theorem tie_wsX1_init : wsX1_init = tk ix_wsX1_init := tk_co rfl (tk_ap (rfl) (tie_wsX10))
abbrev ix_wsX11_init_r1 : List Nat := [9, 10, 11, 12, 13, 14, 15, 16, 17, 18, 19, 20, 21, 22, 23, 24, 25, 26, 27, 28, 29, 30, 31, 32]
set_option maxRecDepth 20000 in
theorem tie_wsX11_init_r1 : wsX11_init_r1 = tk ix_wsX11_init_r1 := rfl
abbrev ix_wsX11_init_r2 : List Nat := [33, 34, 35, 36, 37, 38, 39, 40, 41, 42, 43, 44, 45, 46, 47, 48, 49, 50, 51, 52, 53, 54, 55, 56]
set_option maxRecDepth 20000 in
theorem tie_wsX11_init_r2 : wsX11_init_r2 = tk ix_wsX11_init_r2 := rfl
abbrev ix_wsX11_init_r3 : List Nat := [57, 58, 59, 60, 61, 62, 63, 64, 65, 66, 67, 68, 69, 70, 71, 72, 73, 74, 75, 76, 77, 78, 79, 80]
set_option maxRecDepth 20000 in
theorem tie_wsX11_init_r3 : wsX11_init_r3 = tk ix_wsX11_init_r3 := rfl
abbrev ix_wsX11_init_r4 : List Nat := [81, 82, 83, 84, 85, 86, 87, 88, 89, 90, 91, 92, 93, 94, 95, 96, 97, 98, 99, 100, 101, 102, 103, 104]
set_option maxRecDepth 20000 in
theorem tie_wsX11_init_r4 : wsX11_init_r4 = tk ix_wsX11_init_r4 := rfl
abbrev ix_wsX11_init_r5 : List Nat := [105, 106, 107, 108, 109, 110]
set_option maxRecDepth 20000 in
theorem tie_wsX11_init_r5 : wsX11_init_r5 = tk ix_wsX11_init_r5 := rfl
abbrev ix_wsX110 : List Nat := [1364, 1365, 1366, 1367, 1368, 1369, 1370, 1371, 1372, 1373]
theorem tie_wsX110 : wsX110 = tk ix_wsX110 := by decide +kernel
abbrev ix_wsJ40 : List Nat := [1436, 1437, 1438, 1439]
theorem tie_wsJ40 : wsJ40 = tk ix_wsJ40 := by decide +kernel
abbrev ix_wsX11_init : List Nat := 8 :: ((((((((((ix_wsX11_init_r1) ++ ((ix_wsX11_init_r2) ++ ((ix_wsX11_init_r3) ++ ((ix_wsX11_init_r4) ++ (ix_wsX11_init_r5))))) ++ (ix_wsX20)) ++ (ix_wsX110)) ++ (ix_wsX60)) ++ (ix_wsX70)) ++ (ix_wsX80)) ++ (ix_wsX00)) ++ (ix_wsJ40)) ++ (ix_wsX30))
set_option maxRecDepth 20000 in
theorem tie_wsX11_init : wsX11_init = tk ix_wsX11_init := tk_co rfl (tk_ap (tk_ap (tk_ap (tk_ap (tk_ap (tk_ap (tk_ap (tk_ap (tk_ap (tie_wsX11_init_r1) (tk_ap (tie_wsX11_init_r2) (tk_ap (tie_wsX11_init_r3) (tk_ap (tie_wsX11_init_r4) (tie_wsX11_init_r5))))) (tie_wsX20)) (tie_wsX110)) (tie_wsX60)) (tie_wsX70)) (tie_wsX80)) (tie_wsX00)) (tie_wsJ40)) (tie_wsX30))
abbrev ix_wsX7_init : List Nat := 58 :: (([59, 10, 11, 44, 60, 61, 62, 63]) ++ (ix_wsX70))
set_option maxRecDepth 20000 in
theorem tie_wsX7_init : wsX7_init = tk ix_wsX7_init := tk_co rfl (tk_ap (rfl) (tie_wsX70))
abbrev ix_wsX0_init : List Nat := 84 :: (([85, 10, 11, 72, 86, 87, 44, 88, 89, 90]) ++ (ix_wsX00))
set_option maxRecDepth 20000 in
theorem tie_wsX0_init : wsX0_init = tk ix_wsX0_init := tk_co rfl (tk_ap (rfl) (tie_wsX00))
abbrev ix_wsJ4_init_da8c8 : List Nat := 93 :: (([94, 95, 96, 97, 98, 10, 11, 99, 100, 101, 102, 103, 104, 105, 106, 107, 108, 109, 110]) ++ (ix_wsJ40))
set_option maxRecDepth 20000 in
theorem tie_wsJ4_init_da8c8 : wsJ4_init_da8c8 = tk ix_wsJ4_init_da8c8 := tk_co rfl (tk_ap (rfl) (tie_wsJ40))
abbrev ix_wsX11_addState_r1 : List Nat := [15, 20, 144, 145, 146, 14, 147, 148, 149, 150, 151, 19, 152, 54, 55, 153, 154, 155, 156, 53, 157, 158, 159, 160]
set_option maxRecDepth 20000 in
theorem tie_wsX11_addState_r1 : wsX11_addState_r1 = tk ix_wsX11_addState_r1 := rfl
abbrev ix_wsX11_addState_r2 : List Nat := [45, 46, 47, 161, 162, 163, 164]
set_option maxRecDepth 20000 in
theorem tie_wsX11_addState_r2 : wsX11_addState_r2 = tk ix_wsX11_addState_r2 := rfl
abbrev ix_wsX11_addState : List Nat := 143 :: (((((ix_wsX11_addState_r1) ++ (ix_wsX11_addState_r2)) ++ (ix_wsX110)) ++ (ix_wsX20)) ++ (ix_wsX60))
set_option maxRecDepth 20000 in
theorem tie_wsX11_addState : wsX11_addState = tk ix_wsX11_addState := tk_co rfl (tk_ap (tk_ap (tk_ap (tk_ap (tie_wsX11_addState_r1) (tie_wsX11_addState_r2)) (tie_wsX110)) (tie_wsX20)) (tie_wsX60))
abbrev ix_wsX2_grow : List Nat := 164 :: (([148]) ++ (ix_wsX20))
set_option maxRecDepth 20000 in
theorem tie_wsX2_grow : wsX2_grow = tk ix_wsX2_grow := tk_co rfl (tk_ap (rfl) (tie_wsX20))
abbrev ix_wsX11_removeState_r1 : List Nat := [15, 20, 144, 145, 146, 14, 147, 148, 149, 150, 151, 19, 152, 54, 55, 153, 154, 155, 156, 53, 157, 158, 159, 160]
set_option maxRecDepth 20000 in
theorem tie_wsX11_removeState_r1 : wsX11_removeState_r1 = tk ix_wsX11_removeState_r1 := rfl
abbrev ix_wsX11_removeState_r2 : List Nat := [45, 46, 47, 182, 183, 184, 185, 186, 187, 188, 189, 190, 191, 192, 193, 194, 195, 196, 197, 198, 199, 200, 201]
set_option maxRecDepth 20000 in
theorem tie_wsX11_removeState_r2 : wsX11_removeState_r2 = tk ix_wsX11_removeState_r2 := rfl
abbrev ix_wsX11_removeState : List Nat := 181 :: (((((ix_wsX11_removeState_r1) ++ (ix_wsX11_removeState_r2)) ++ (ix_wsX110)) ++ (ix_wsX20)) ++ (ix_wsX60))
set_option maxRecDepth 20000 in
theorem tie_wsX11_removeState : wsX11_removeState = tk ix_wsX11_removeState := tk_co rfl (tk_ap (tk_ap (tk_ap (tk_ap (tie_wsX11_removeState_r1) (tie_wsX11_removeState_r2)) (tie_wsX110)) (tie_wsX20)) (tie_wsX60))
abbrev ix_wsX11_stateCount : List Nat := 209 :: ((([15, 144, 145, 146, 14, 147, 148]) ++ (ix_wsX110)) ++ (ix_wsX20))
set_option maxRecDepth 20000 in
theorem tie_wsX11_stateCount : wsX11_stateCount = tk ix_wsX11_stateCount := tk_co rfl (tk_ap (tk_ap (rfl) (tie_wsX110)) (tie_wsX20))
abbrev ix_wsX11_setWeight_r1 : List Nat := [15, 20, 218, 191, 192, 14, 193, 148, 219, 220, 221, 222, 45, 223, 224, 225, 226, 227, 149, 150, 151, 19, 152, 54]
set_option maxRecDepth 20000 in
theorem tie_wsX11_setWeight_r1 : wsX11_setWeight_r1 = tk ix_wsX11_setWeight_r1 := rfl
abbrev ix_wsX11_setWeight_r2 : List Nat := [55, 153, 154, 155, 156, 53, 157, 158, 159, 160, 46, 47, 228, 187, 188, 189, 190]
set_option maxRecDepth 20000 in
theorem tie_wsX11_setWeight_r2 : wsX11_setWeight_r2 = tk ix_wsX11_setWeight_r2 := rfl
abbrev ix_wsX11_setWeight : List Nat := 217 :: (((((ix_wsX11_setWeight_r1) ++ (ix_wsX11_setWeight_r2)) ++ (ix_wsX110)) ++ (ix_wsX20)) ++ (ix_wsX60))
set_option maxRecDepth 20000 in
theorem tie_wsX11_setWeight : wsX11_setWeight = tk ix_wsX11_setWeight := tk_co rfl (tk_ap (tk_ap (tk_ap (tk_ap (tie_wsX11_setWeight_r1) (tie_wsX11_setWeight_r2)) (tie_wsX110)) (tie_wsX20)) (tie_wsX60))
abbrev ix_wsX11_weight : List Nat := 247 :: ((([15, 218, 191, 192, 14, 193, 148, 219, 220, 221, 222, 45]) ++ (ix_wsX110)) ++ (ix_wsX20))
set_option maxRecDepth 20000 in
theorem tie_wsX11_weight : wsX11_weight = tk ix_wsX11_weight := tk_co rfl (tk_ap (tk_ap (rfl) (tie_wsX110)) (tie_wsX20))
abbrev ix_wsX11_sum : List Nat := 255 :: ((([15, 218, 191, 192, 14, 193, 148, 223, 224, 225, 226, 227, 220, 221, 222, 45]) ++ (ix_wsX110)) ++ (ix_wsX20))
set_option maxRecDepth 20000 in
theorem tie_wsX11_sum : wsX11_sum = tk ix_wsX11_sum := tk_co rfl (tk_ap (tk_ap (rfl) (tie_wsX110)) (tie_wsX20))
abbrev ix_wsX11_setLabels_r1 : List Nat := [15, 20, 218, 191, 192, 14, 193, 148, 264, 265, 266, 267, 46, 190, 149, 150, 151, 19, 152, 54, 55, 153, 154, 155]
set_option maxRecDepth 20000 in
theorem tie_wsX11_setLabels_r1 : wsX11_setLabels_r1 = tk ix_wsX11_setLabels_r1 := rfl
abbrev ix_wsX11_setLabels_r2 : List Nat := [156, 53, 157, 158, 159, 160, 45, 47, 268, 195, 196, 197]
set_option maxRecDepth 20000 in
theorem tie_wsX11_setLabels_r2 : wsX11_setLabels_r2 = tk ix_wsX11_setLabels_r2 := rfl
abbrev ix_wsX11_setLabels : List Nat := 263 :: (((((ix_wsX11_setLabels_r1) ++ (ix_wsX11_setLabels_r2)) ++ (ix_wsX110)) ++ (ix_wsX20)) ++ (ix_wsX60))
set_option maxRecDepth 20000 in
theorem tie_wsX11_setLabels : wsX11_setLabels = tk ix_wsX11_setLabels := tk_co rfl (tk_ap (tk_ap (tk_ap (tk_ap (tie_wsX11_setLabels_r1) (tie_wsX11_setLabels_r2)) (tie_wsX110)) (tie_wsX20)) (tie_wsX60))
abbrev ix_wsX11_labels : List Nat := 276 :: ((([15, 218, 191, 192, 14, 193, 148, 264, 265, 266, 267, 46, 190]) ++ (ix_wsX110)) ++ (ix_wsX20))
set_option maxRecDepth 20000 in
theorem tie_wsX11_labels : wsX11_labels = tk ix_wsX11_labels := tk_co rfl (tk_ap (tk_ap (rfl) (tie_wsX110)) (tie_wsX20))
abbrev ix_wsX11_setReward_r1 : List Nat := [15, 20, 218, 191, 192, 14, 193, 148, 285, 286, 287, 288, 47, 190, 149, 150, 151, 19, 152, 54, 55, 153, 154, 155]
set_option maxRecDepth 20000 in
theorem tie_wsX11_setReward_r1 : wsX11_setReward_r1 = tk ix_wsX11_setReward_r1 := rfl
abbrev ix_wsX11_setReward_r2 : List Nat := [156, 53, 157, 158, 159, 160, 45, 46, 289, 199, 200, 201]
set_option maxRecDepth 20000 in
theorem tie_wsX11_setReward_r2 : wsX11_setReward_r2 = tk ix_wsX11_setReward_r2 := rfl
abbrev ix_wsX11_setReward : List Nat := 284 :: (((((ix_wsX11_setReward_r1) ++ (ix_wsX11_setReward_r2)) ++ (ix_wsX110)) ++ (ix_wsX20)) ++ (ix_wsX60))
set_option maxRecDepth 20000 in
theorem tie_wsX11_setReward : wsX11_setReward = tk ix_wsX11_setReward := tk_co rfl (tk_ap (tk_ap (tk_ap (tk_ap (tie_wsX11_setReward_r1) (tie_wsX11_setReward_r2)) (tie_wsX110)) (tie_wsX20)) (tie_wsX60))
abbrev ix_wsX11_reward : List Nat := 297 :: ((([15, 218, 191, 192, 14, 193, 148, 285, 286, 287, 288, 47, 190]) ++ (ix_wsX110)) ++ (ix_wsX20))
set_option maxRecDepth 20000 in
theorem tie_wsX11_reward : wsX11_reward = tk ix_wsX11_reward := tk_co rfl (tk_ap (tk_ap (rfl) (tie_wsX110)) (tie_wsX20))
abbrev ix_wsX11_reaches : List Nat := 305 :: ((([15, 218, 191, 192, 14, 193, 148, 306, 307, 308, 309, 310, 2, 311, 312, 313, 314, 315, 227, 220, 221, 222, 45]) ++ (ix_wsX110)) ++ (ix_wsX20))
set_option maxRecDepth 20000 in
theorem tie_wsX11_reaches : wsX11_reaches = tk ix_wsX11_reaches := tk_co rfl (tk_ap (tk_ap (rfl) (tie_wsX110)) (tie_wsX20))
abbrev ix_wsX11_component_r1 : List Nat := [15, 218, 191, 192, 14, 193, 148, 335, 336, 337, 338, 339, 307, 308, 309, 310, 2, 311, 312, 313, 314, 315, 227, 220]
set_option maxRecDepth 20000 in
theorem tie_wsX11_component_r1 : wsX11_component_r1 = tk ix_wsX11_component_r1 := rfl
abbrev ix_wsX11_component_r2 : List Nat := [221, 222, 45]
set_option maxRecDepth 20000 in
theorem tie_wsX11_component_r2 : wsX11_component_r2 = tk ix_wsX11_component_r2 := rfl
abbrev ix_wsX11_component : List Nat := 334 :: ((((ix_wsX11_component_r1) ++ (ix_wsX11_component_r2)) ++ (ix_wsX110)) ++ (ix_wsX20))
set_option maxRecDepth 20000 in
theorem tie_wsX11_component : wsX11_component = tk ix_wsX11_component := tk_co rfl (tk_ap (tk_ap (tk_ap (tie_wsX11_component_r1) (tie_wsX11_component_r2)) (tie_wsX110)) (tie_wsX20))
abbrev ix_wsX11_bottoms_r1 : List Nat := [15, 352, 353, 354, 14, 355, 148, 356, 357, 358, 359, 339, 307, 308, 309, 310, 2, 311, 312, 313, 314, 315, 227, 220]
set_option maxRecDepth 20000 in
theorem tie_wsX11_bottoms_r1 : wsX11_bottoms_r1 = tk ix_wsX11_bottoms_r1 := rfl
abbrev ix_wsX11_bottoms_r2 : List Nat := [221, 222, 45]
set_option maxRecDepth 20000 in
theorem tie_wsX11_bottoms_r2 : wsX11_bottoms_r2 = tk ix_wsX11_bottoms_r2 := rfl
abbrev ix_wsX11_bottoms : List Nat := 351 :: ((((ix_wsX11_bottoms_r1) ++ (ix_wsX11_bottoms_r2)) ++ (ix_wsX110)) ++ (ix_wsX20))
set_option maxRecDepth 20000 in
theorem tie_wsX11_bottoms : wsX11_bottoms = tk ix_wsX11_bottoms := tk_co rfl (tk_ap (tk_ap (tk_ap (tie_wsX11_bottoms_r1) (tie_wsX11_bottoms_r2)) (tie_wsX110)) (tie_wsX20))
abbrev ix_wsX11_classCount_r1 : List Nat := [24, 372, 373, 374, 23, 375, 60, 63, 62, 61, 376, 145, 146, 14, 147, 148, 377, 378, 379, 380, 381, 191, 192, 193]
set_option maxRecDepth 20000 in
theorem tie_wsX11_classCount_r1 : wsX11_classCount_r1 = tk ix_wsX11_classCount_r1 := rfl
abbrev ix_wsX11_classCount_r2 : List Nat := [382, 383, 384, 385, 386, 265, 266, 267, 46, 190, 387, 286, 287, 288, 47, 388, 389, 390, 391, 392, 2, 393, 394, 395]
set_option maxRecDepth 20000 in
theorem tie_wsX11_classCount_r2 : wsX11_classCount_r2 = tk ix_wsX11_classCount_r2 := rfl
abbrev ix_wsX11_classCount_r3 : List Nat := [396, 397, 398, 399, 400, 401, 310, 311, 227, 220, 221, 222, 45, 402, 224, 225, 226, 403, 404, 405, 406, 407, 408, 409]
set_option maxRecDepth 20000 in
theorem tie_wsX11_classCount_r3 : wsX11_classCount_r3 = tk ix_wsX11_classCount_r3 := rfl
abbrev ix_wsX11_classCount_r4 : List Nat := [410]
set_option maxRecDepth 20000 in
theorem tie_wsX11_classCount_r4 : wsX11_classCount_r4 = tk ix_wsX11_classCount_r4 := rfl
abbrev ix_wsX11_classCount : List Nat := 371 :: (((((ix_wsX11_classCount_r1) ++ ((ix_wsX11_classCount_r2) ++ ((ix_wsX11_classCount_r3) ++ (ix_wsX11_classCount_r4)))) ++ (ix_wsX110)) ++ (ix_wsX70)) ++ (ix_wsX20))
set_option maxRecDepth 20000 in
theorem tie_wsX11_classCount : wsX11_classCount = tk ix_wsX11_classCount := tk_co rfl (tk_ap (tk_ap (tk_ap (tk_ap (tie_wsX11_classCount_r1) (tk_ap (tie_wsX11_classCount_r2) (tk_ap (tie_wsX11_classCount_r3) (tie_wsX11_classCount_r4)))) (tie_wsX110)) (tie_wsX70)) (tie_wsX20))
abbrev ix_wsX7_total : List Nat := 410 :: (([63]) ++ (ix_wsX70))
set_option maxRecDepth 20000 in
theorem tie_wsX7_total : wsX7_total = tk ix_wsX7_total := tk_co rfl (tk_ap (rfl) (tie_wsX70))
abbrev ix_wsX11_classOf_r1 : List Nat := [15, 24, 218, 191, 192, 14, 193, 148, 372, 373, 374, 23, 375, 60, 63, 62, 61, 376, 145, 146, 147, 377, 378, 379]
set_option maxRecDepth 20000 in
theorem tie_wsX11_classOf_r1 : wsX11_classOf_r1 = tk ix_wsX11_classOf_r1 := rfl
abbrev ix_wsX11_classOf_r2 : List Nat := [380, 381, 382, 383, 384, 385, 386, 265, 266, 267, 46, 190, 387, 286, 287, 288, 47, 388, 389, 390, 391, 392, 2, 393]
set_option maxRecDepth 20000 in
theorem tie_wsX11_classOf_r2 : wsX11_classOf_r2 = tk ix_wsX11_classOf_r2 := rfl
abbrev ix_wsX11_classOf_r3 : List Nat := [394, 395, 396, 397, 398, 399, 400, 401, 310, 311, 227, 220, 221, 222, 45, 402, 224, 225, 226, 403, 404, 405, 406, 443]
set_option maxRecDepth 20000 in
theorem tie_wsX11_classOf_r3 : wsX11_classOf_r3 = tk ix_wsX11_classOf_r3 := rfl
abbrev ix_wsX11_classOf : List Nat := 442 :: (((((ix_wsX11_classOf_r1) ++ ((ix_wsX11_classOf_r2) ++ (ix_wsX11_classOf_r3))) ++ (ix_wsX110)) ++ (ix_wsX20)) ++ (ix_wsX70))
set_option maxRecDepth 20000 in
theorem tie_wsX11_classOf : wsX11_classOf = tk ix_wsX11_classOf := tk_co rfl (tk_ap (tk_ap (tk_ap (tk_ap (tie_wsX11_classOf_r1) (tk_ap (tie_wsX11_classOf_r2) (tie_wsX11_classOf_r3))) (tie_wsX110)) (tie_wsX20)) (tie_wsX70))
abbrev ix_wsX11_lumped_r1 : List Nat := [452, 24, 28, 453, 454, 455, 2, 456, 15, 218, 191, 192, 14, 193, 148, 372, 373, 374, 23, 375, 60, 63, 62, 61]
set_option maxRecDepth 20000 in
theorem tie_wsX11_lumped_r1 : wsX11_lumped_r1 = tk ix_wsX11_lumped_r1 := rfl
abbrev ix_wsX11_lumped_r2 : List Nat := [376, 145, 146, 147, 377, 378, 379, 380, 381, 382, 383, 384, 385, 386, 265, 266, 267, 46, 190, 387, 286, 287, 288, 47]
set_option maxRecDepth 20000 in
theorem tie_wsX11_lumped_r2 : wsX11_lumped_r2 = tk ix_wsX11_lumped_r2 := rfl
abbrev ix_wsX11_lumped_r3 : List Nat := [388, 389, 390, 391, 392, 393, 394, 395, 396, 397, 398, 399, 400, 401, 310, 311, 227, 220, 221, 222, 45, 402, 224, 225]
set_option maxRecDepth 20000 in
theorem tie_wsX11_lumped_r3 : wsX11_lumped_r3 = tk ix_wsX11_lumped_r3 := rfl
abbrev ix_wsX11_lumped_r4 : List Nat := [226, 403, 404, 405, 406, 407, 408, 409, 410, 457, 458, 459, 460, 27, 461, 77, 462, 463, 464, 465, 466, 467, 73, 74]
set_option maxRecDepth 20000 in
theorem tie_wsX11_lumped_r4 : wsX11_lumped_r4 = tk ix_wsX11_lumped_r4 := rfl
abbrev ix_wsX11_lumped_r5 : List Nat := [468, 469, 470, 471, 472, 473]
set_option maxRecDepth 20000 in
theorem tie_wsX11_lumped_r5 : wsX11_lumped_r5 = tk ix_wsX11_lumped_r5 := rfl
abbrev ix_wsX11_lumped : List Nat := 451 :: ((((((ix_wsX11_lumped_r1) ++ ((ix_wsX11_lumped_r2) ++ ((ix_wsX11_lumped_r3) ++ ((ix_wsX11_lumped_r4) ++ (ix_wsX11_lumped_r5))))) ++ (ix_wsX110)) ++ (ix_wsX20)) ++ (ix_wsX70)) ++ (ix_wsX80))
set_option maxRecDepth 20000 in
theorem tie_wsX11_lumped : wsX11_lumped = tk ix_wsX11_lumped := tk_co rfl (tk_ap (tk_ap (tk_ap (tk_ap (tk_ap (tie_wsX11_lumped_r1) (tk_ap (tie_wsX11_lumped_r2) (tk_ap (tie_wsX11_lumped_r3) (tk_ap (tie_wsX11_lumped_r4) (tie_wsX11_lumped_r5))))) (tie_wsX110)) (tie_wsX20)) (tie_wsX70)) (tie_wsX80))
abbrev ix_wsX11_asksValue : List Nat := 456 :: ((([15, 218, 191, 192, 14, 193, 148]) ++ (ix_wsX110)) ++ (ix_wsX20))
set_option maxRecDepth 20000 in
theorem tie_wsX11_asksValue : wsX11_asksValue = tk ix_wsX11_asksValue := tk_co rfl (tk_ap (tk_ap (rfl) (tie_wsX110)) (tie_wsX20))
abbrev ix_wsX11_feed_r1 : List Nat := [36, 499, 500, 501, 35, 502, 503, 504, 505, 506, 96, 507, 508, 509, 510, 511, 512, 513, 514, 515, 516, 101, 517, 518]
set_option maxRecDepth 20000 in
theorem tie_wsX11_feed_r1 : wsX11_feed_r1 = tk ix_wsX11_feed_r1 := rfl
abbrev ix_wsX11_feed_r2 : List Nat := [519, 520, 521, 102, 522, 523, 524, 525, 526, 527, 528, 529, 530, 531, 532, 436, 437, 438, 533, 534, 535, 536, 537, 538]
set_option maxRecDepth 20000 in
theorem tie_wsX11_feed_r2 : wsX11_feed_r2 = tk ix_wsX11_feed_r2 := rfl
abbrev ix_wsX11_feed_r3 : List Nat := [539, 540, 541, 542, 543, 544, 545, 546, 100, 547, 548, 549, 550, 175, 176, 177, 551, 552, 553, 554, 555, 99, 556, 557]
set_option maxRecDepth 20000 in
theorem tie_wsX11_feed_r3 : wsX11_feed_r3 = tk ix_wsX11_feed_r3 := rfl
abbrev ix_wsX11_feed_r4 : List Nat := [558, 559, 560, 561, 562, 563, 564, 103, 104, 105, 106, 107, 108, 109, 110, 565, 566, 567, 568, 569, 570, 571, 572, 573]
set_option maxRecDepth 20000 in
theorem tie_wsX11_feed_r4 : wsX11_feed_r4 = tk ix_wsX11_feed_r4 := rfl
abbrev ix_wsX11_feed_r5 : List Nat := [574, 575, 576, 577, 578, 579, 580, 581, 582, 583, 584, 585, 586, 587, 588, 589, 590, 591, 592, 593, 594, 595, 596, 597]
set_option maxRecDepth 20000 in
theorem tie_wsX11_feed_r5 : wsX11_feed_r5 = tk ix_wsX11_feed_r5 := rfl
abbrev ix_wsX11_feed_r6 : List Nat := [598, 599, 600, 601, 602, 603]
set_option maxRecDepth 20000 in
theorem tie_wsX11_feed_r6 : wsX11_feed_r6 = tk ix_wsX11_feed_r6 := rfl
abbrev ix_wsX11_feed : List Nat := 498 :: ((((ix_wsX11_feed_r1) ++ ((ix_wsX11_feed_r2) ++ ((ix_wsX11_feed_r3) ++ ((ix_wsX11_feed_r4) ++ ((ix_wsX11_feed_r5) ++ (ix_wsX11_feed_r6)))))) ++ (ix_wsX110)) ++ (ix_wsJ40))
set_option maxRecDepth 20000 in
theorem tie_wsX11_feed : wsX11_feed = tk ix_wsX11_feed := tk_co rfl (tk_ap (tk_ap (tk_ap (tie_wsX11_feed_r1) (tk_ap (tie_wsX11_feed_r2) (tk_ap (tie_wsX11_feed_r3) (tk_ap (tie_wsX11_feed_r4) (tk_ap (tie_wsX11_feed_r5) (tie_wsX11_feed_r6)))))) (tie_wsX110)) (tie_wsJ40))
abbrev ix_wsJ4_length_8abf5 : List Nat := 502 :: (([503, 504, 505, 506, 96, 507, 508]) ++ (ix_wsJ40))
set_option maxRecDepth 20000 in
theorem tie_wsJ4_length_8abf5 : wsJ4_length_8abf5 = tk ix_wsJ4_length_8abf5 := tk_co rfl (tk_ap (rfl) (tie_wsJ40))
abbrev ix_wsJ4_append_cf468_r1 : List Nat := [513, 514, 505, 515, 96, 516, 508, 101, 517, 518, 519, 520, 521, 102, 522, 523, 524, 525, 526, 527, 528, 529, 530, 531]
set_option maxRecDepth 20000 in
theorem tie_wsJ4_append_cf468_r1 : wsJ4_append_cf468_r1 = tk ix_wsJ4_append_cf468_r1 := rfl
abbrev ix_wsJ4_append_cf468_r2 : List Nat := [532, 436, 437, 438, 533, 534, 535, 536, 537, 538, 539, 540, 541, 542, 543, 544, 545, 546, 100, 547, 548, 549, 550, 175]
set_option maxRecDepth 20000 in
theorem tie_wsJ4_append_cf468_r2 : wsJ4_append_cf468_r2 = tk ix_wsJ4_append_cf468_r2 := rfl
abbrev ix_wsJ4_append_cf468_r3 : List Nat := [176, 177, 551, 552, 553, 554, 555, 99, 556, 557, 558, 559, 560, 561, 562, 563, 564, 103, 104, 105, 106, 107, 108, 109]
set_option maxRecDepth 20000 in
theorem tie_wsJ4_append_cf468_r3 : wsJ4_append_cf468_r3 = tk ix_wsJ4_append_cf468_r3 := rfl
abbrev ix_wsJ4_append_cf468_r4 : List Nat := [110, 565, 566, 567, 568, 569, 570, 571, 572, 573, 574, 575, 576, 577, 578, 579, 580, 581, 582, 583, 584, 585, 586, 587]
set_option maxRecDepth 20000 in
theorem tie_wsJ4_append_cf468_r4 : wsJ4_append_cf468_r4 = tk ix_wsJ4_append_cf468_r4 := rfl
abbrev ix_wsJ4_append_cf468_r5 : List Nat := [588, 589, 590, 591, 592, 593, 594, 595, 596, 597, 598, 599, 600, 601, 602, 603]
set_option maxRecDepth 20000 in
theorem tie_wsJ4_append_cf468_r5 : wsJ4_append_cf468_r5 = tk ix_wsJ4_append_cf468_r5 := rfl
abbrev ix_wsJ4_append_cf468 : List Nat := 512 :: (((ix_wsJ4_append_cf468_r1) ++ ((ix_wsJ4_append_cf468_r2) ++ ((ix_wsJ4_append_cf468_r3) ++ ((ix_wsJ4_append_cf468_r4) ++ (ix_wsJ4_append_cf468_r5))))) ++ (ix_wsJ40))
set_option maxRecDepth 20000 in
theorem tie_wsJ4_append_cf468 : wsJ4_append_cf468 = tk ix_wsJ4_append_cf468 := tk_co rfl (tk_ap (tk_ap (tie_wsJ4_append_cf468_r1) (tk_ap (tie_wsJ4_append_cf468_r2) (tk_ap (tie_wsJ4_append_cf468_r3) (tk_ap (tie_wsJ4_append_cf468_r4) (tie_wsJ4_append_cf468_r5))))) (tie_wsJ40))
abbrev ix_wsX11_addFormula_r1 : List Nat := [36, 613, 614, 615, 39, 38, 37, 616, 617, 618, 619, 620, 35, 621, 622, 623, 579, 624, 625, 626, 627, 628, 629, 630]
set_option maxRecDepth 20000 in
theorem tie_wsX11_addFormula_r1 : wsX11_addFormula_r1 = tk ix_wsX11_addFormula_r1 := rfl
abbrev ix_wsX11_addFormula_r2 : List Nat := [10, 11, 631, 632, 633, 634, 635, 636, 637, 638, 96, 639, 101, 640, 504, 641, 642, 500, 502, 503, 505, 506, 507, 508]
set_option maxRecDepth 20000 in
theorem tie_wsX11_addFormula_r2 : wsX11_addFormula_r2 = tk ix_wsX11_addFormula_r2 := rfl
abbrev ix_wsX11_addFormula_r3 : List Nat := [643, 552, 553, 554, 555, 99, 102, 644, 645, 539, 646, 541, 542, 543, 544, 545, 546, 647, 648, 649, 100, 547, 548, 437]
set_option maxRecDepth 20000 in
theorem tie_wsX11_addFormula_r3 : wsX11_addFormula_r3 = tk ix_wsX11_addFormula_r3 := rfl
abbrev ix_wsX11_addFormula_r4 : List Nat := [549, 550, 175, 176, 177, 650, 651, 652, 653, 654, 105, 655, 656, 657, 658, 571, 572, 573, 574, 575, 576, 577, 578, 580]
set_option maxRecDepth 20000 in
theorem tie_wsX11_addFormula_r4 : wsX11_addFormula_r4 = tk ix_wsX11_addFormula_r4 := rfl
abbrev ix_wsX11_addFormula_r5 : List Nat := [581, 582, 583, 584, 585, 659, 660, 661, 589, 590, 591, 107, 108, 109, 110, 662, 663, 664, 665, 666, 667, 668, 669, 670]
set_option maxRecDepth 20000 in
theorem tie_wsX11_addFormula_r5 : wsX11_addFormula_r5 = tk ix_wsX11_addFormula_r5 := rfl
abbrev ix_wsX11_addFormula_r6 : List Nat := [671, 672, 673, 674, 517, 518, 519, 520, 521, 522, 523, 524, 525, 526, 527, 528, 529, 530, 531, 532, 436, 438, 533, 534]
set_option maxRecDepth 20000 in
theorem tie_wsX11_addFormula_r6 : wsX11_addFormula_r6 = tk ix_wsX11_addFormula_r6 := rfl
abbrev ix_wsX11_addFormula_r7 : List Nat := [535, 536, 537, 538, 540, 551, 675, 676, 558, 677, 678, 679, 680, 681, 682, 683, 684, 685, 686, 687, 688, 689, 690, 691]
set_option maxRecDepth 20000 in
theorem tie_wsX11_addFormula_r7 : wsX11_addFormula_r7 = tk ix_wsX11_addFormula_r7 := rfl
abbrev ix_wsX11_addFormula_r8 : List Nat := [692, 693, 694, 695, 696, 697, 698, 699, 700, 701, 702, 703, 704, 705, 706, 707, 708, 709, 710, 711, 712, 713, 714, 715]
set_option maxRecDepth 20000 in
theorem tie_wsX11_addFormula_r8 : wsX11_addFormula_r8 = tk ix_wsX11_addFormula_r8 := rfl
abbrev ix_wsX11_addFormula_r9 : List Nat := [716, 717, 718, 719, 720, 721, 722, 723, 724, 599, 600, 601, 602, 603, 725, 726, 727, 595, 596, 597, 598, 728, 729, 730]
set_option maxRecDepth 20000 in
theorem tie_wsX11_addFormula_r9 : wsX11_addFormula_r9 = tk ix_wsX11_addFormula_r9 := rfl
abbrev ix_wsX11_addFormula_r10 : List Nat := [731, 732, 733, 734, 735, 736, 737, 738, 739, 740, 741, 742, 743, 744, 745, 746, 747, 748, 749, 750, 751, 752, 753, 754]
set_option maxRecDepth 20000 in
theorem tie_wsX11_addFormula_r10 : wsX11_addFormula_r10 = tk ix_wsX11_addFormula_r10 := rfl
abbrev ix_wsX11_addFormula_r11 : List Nat := [755, 756, 757, 758, 759, 760, 761, 762, 763, 764, 765, 766, 767, 768, 769, 770, 771, 772, 773, 774, 775, 776, 777, 778]
set_option maxRecDepth 20000 in
theorem tie_wsX11_addFormula_r11 : wsX11_addFormula_r11 = tk ix_wsX11_addFormula_r11 := rfl
abbrev ix_wsX11_addFormula_r12 : List Nat := [779, 780, 781, 782, 783, 784, 785, 786, 787, 788, 789, 790, 791, 792, 793, 794, 795, 796, 797, 798, 799, 800, 801]
set_option maxRecDepth 20000 in
theorem tie_wsX11_addFormula_r12 : wsX11_addFormula_r12 = tk ix_wsX11_addFormula_r12 := rfl
abbrev ix_wsX11_addFormula : List Nat := 612 :: (((((((((ix_wsX11_addFormula_r1) ++ ((ix_wsX11_addFormula_r2) ++ ((ix_wsX11_addFormula_r3) ++ ((ix_wsX11_addFormula_r4) ++ ((ix_wsX11_addFormula_r5) ++ ((ix_wsX11_addFormula_r6) ++ ((ix_wsX11_addFormula_r7) ++ ((ix_wsX11_addFormula_r8) ++ ((ix_wsX11_addFormula_r9) ++ ((ix_wsX11_addFormula_r10) ++ ((ix_wsX11_addFormula_r11) ++ (ix_wsX11_addFormula_r12)))))))))))) ++ (ix_wsX110)) ++ (ix_wsX100)) ++ (ix_wsX50)) ++ (ix_wsJ00)) ++ (ix_wsJ40)) ++ (ix_wsX90)) ++ (ix_wsX10))
set_option maxRecDepth 20000 in
theorem tie_wsX11_addFormula : wsX11_addFormula = tk ix_wsX11_addFormula := tk_co rfl (tk_ap (tk_ap (tk_ap (tk_ap (tk_ap (tk_ap (tk_ap (tk_ap (tie_wsX11_addFormula_r1) (tk_ap (tie_wsX11_addFormula_r2) (tk_ap (tie_wsX11_addFormula_r3) (tk_ap (tie_wsX11_addFormula_r4) (tk_ap (tie_wsX11_addFormula_r5) (tk_ap (tie_wsX11_addFormula_r6) (tk_ap (tie_wsX11_addFormula_r7) (tk_ap (tie_wsX11_addFormula_r8) (tk_ap (tie_wsX11_addFormula_r9) (tk_ap (tie_wsX11_addFormula_r10) (tk_ap (tie_wsX11_addFormula_r11) (tie_wsX11_addFormula_r12)))))))))))) (tie_wsX110)) (tie_wsX100)) (tie_wsX50)) (tie_wsJ00)) (tie_wsJ40)) (tie_wsX90)) (tie_wsX10))
abbrev ix_wsJ4_toString_0e30d_r1 : List Nat := [622, 623, 579, 624, 625, 626, 627, 628, 629, 630, 10, 11, 631, 632, 633, 634, 635, 636, 637, 638, 96, 639, 101, 640]
set_option maxRecDepth 20000 in
theorem tie_wsJ4_toString_0e30d_r1 : wsJ4_toString_0e30d_r1 = tk ix_wsJ4_toString_0e30d_r1 := rfl
abbrev ix_wsJ4_toString_0e30d_r2 : List Nat := [504, 641, 642, 500, 35, 502, 503, 505, 506, 507, 508, 643, 552, 553, 554, 555, 99, 102, 644, 645, 539, 646, 541, 542]
set_option maxRecDepth 20000 in
theorem tie_wsJ4_toString_0e30d_r2 : wsJ4_toString_0e30d_r2 = tk ix_wsJ4_toString_0e30d_r2 := rfl
abbrev ix_wsJ4_toString_0e30d_r3 : List Nat := [543, 544, 545, 546, 647, 648, 649, 100, 547, 548, 437, 549, 550, 175, 176, 177, 650, 651, 652, 653, 654, 105, 655, 656]
set_option maxRecDepth 20000 in
theorem tie_wsJ4_toString_0e30d_r3 : wsJ4_toString_0e30d_r3 = tk ix_wsJ4_toString_0e30d_r3 := rfl
abbrev ix_wsJ4_toString_0e30d_r4 : List Nat := [657, 658, 571, 572, 573, 574, 575, 576, 577, 578, 580, 581, 582, 583, 584, 585, 659, 660, 661, 589, 590, 591, 107, 108]
set_option maxRecDepth 20000 in
theorem tie_wsJ4_toString_0e30d_r4 : wsJ4_toString_0e30d_r4 = tk ix_wsJ4_toString_0e30d_r4 := rfl
abbrev ix_wsJ4_toString_0e30d_r5 : List Nat := [109, 110, 662, 663, 664, 665]
set_option maxRecDepth 20000 in
theorem tie_wsJ4_toString_0e30d_r5 : wsJ4_toString_0e30d_r5 = tk ix_wsJ4_toString_0e30d_r5 := rfl
abbrev ix_wsJ4_toString_0e30d : List Nat := 621 :: ((((ix_wsJ4_toString_0e30d_r1) ++ ((ix_wsJ4_toString_0e30d_r2) ++ ((ix_wsJ4_toString_0e30d_r3) ++ ((ix_wsJ4_toString_0e30d_r4) ++ (ix_wsJ4_toString_0e30d_r5))))) ++ (ix_wsJ00)) ++ (ix_wsJ40))
set_option maxRecDepth 20000 in
theorem tie_wsJ4_toString_0e30d : wsJ4_toString_0e30d = tk ix_wsJ4_toString_0e30d := tk_co rfl (tk_ap (tk_ap (tk_ap (tie_wsJ4_toString_0e30d_r1) (tk_ap (tie_wsJ4_toString_0e30d_r2) (tk_ap (tie_wsJ4_toString_0e30d_r3) (tk_ap (tie_wsJ4_toString_0e30d_r4) (tie_wsJ4_toString_0e30d_r5))))) (tie_wsJ00)) (tie_wsJ40))
abbrev ix_wsJ4_setLength_d00df_r1 : List Nat := [670, 671, 505, 672, 96, 673, 508, 101, 674, 517, 518, 519, 520, 521, 102, 522, 523, 524, 525, 526, 527, 528, 529, 530]
set_option maxRecDepth 20000 in
theorem tie_wsJ4_setLength_d00df_r1 : wsJ4_setLength_d00df_r1 = tk ix_wsJ4_setLength_d00df_r1 := rfl
abbrev ix_wsJ4_setLength_d00df_r2 : List Nat := [531, 532, 436, 437, 438, 533, 534, 535, 536, 537, 538, 539, 540, 541, 542, 543, 544, 545, 546, 100, 547, 548, 549, 550]
set_option maxRecDepth 20000 in
theorem tie_wsJ4_setLength_d00df_r2 : wsJ4_setLength_d00df_r2 = tk ix_wsJ4_setLength_d00df_r2 := rfl
abbrev ix_wsJ4_setLength_d00df_r3 : List Nat := [175, 176, 177, 551, 552, 553, 554, 555, 99, 675, 676, 558, 677, 678, 679, 680, 681, 682, 683, 684, 685, 105, 686, 687]
set_option maxRecDepth 20000 in
theorem tie_wsJ4_setLength_d00df_r3 : wsJ4_setLength_d00df_r3 = tk ix_wsJ4_setLength_d00df_r3 := rfl
abbrev ix_wsJ4_setLength_d00df : List Nat := 669 :: (((ix_wsJ4_setLength_d00df_r1) ++ ((ix_wsJ4_setLength_d00df_r2) ++ (ix_wsJ4_setLength_d00df_r3))) ++ (ix_wsJ40))
set_option maxRecDepth 20000 in
theorem tie_wsJ4_setLength_d00df : wsJ4_setLength_d00df = tk ix_wsJ4_setLength_d00df := tk_co rfl (tk_ap (tk_ap (tie_wsJ4_setLength_d00df_r1) (tk_ap (tie_wsJ4_setLength_d00df_r2) (tie_wsJ4_setLength_d00df_r3))) (tie_wsJ40))
abbrev ix_wsX10_init : List Nat := 690 :: (([691, 10, 11, 692, 693, 694]) ++ (ix_wsX100))
set_option maxRecDepth 20000 in
theorem tie_wsX10_init : wsX10_init = tk ix_wsX10_init := tk_co rfl (tk_ap (rfl) (tie_wsX100))
abbrev ix_wsX10_position : List Nat := 795 :: (([693]) ++ (ix_wsX100))
set_option maxRecDepth 20000 in
theorem tie_wsX10_position : wsX10_position = tk ix_wsX10_position := tk_co rfl (tk_ap (rfl) (tie_wsX100))
