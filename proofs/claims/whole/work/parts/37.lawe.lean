set_option maxRecDepth 20000 in
theorem gL_law_X4_tick : GoodIn wsL_law (wsV RL 116 RX4 yX4_tick wsX4_tick) := goodIn_app (goodIn_of _ (by decide +kernel)) ggL_law_X4_tick
set_option maxRecDepth 20000 in
theorem ggL_law_X3_time : GoodIn wsL_law wsX3_time := goodIn_r _ [470, 19, 825, 826, 827, 828, 829, 830, 831, 832] (by decide +kernel) (by decide +kernel)
set_option maxRecDepth 20000 in
theorem gL_law_X3_time : GoodIn wsL_law (wsV RL 117 RX3 yX3_time wsX3_time) := goodIn_app (goodIn_of _ (by decide +kernel)) ggL_law_X3_time
set_option maxRecDepth 20000 in
theorem ggL_law_X4_time : GoodIn wsL_law wsX4_time := goodIn_r _ [474, 178, 462, 833, 834, 835, 836, 837, 838, 839, 840, 841, 842, 843, 844, 845, 846, 847, 848, 849, 850, 851, 852, 853, 854, 855, 856, 857, 858, 859, 860, 861] (by decide +kernel) (by decide +kernel)
set_option maxRecDepth 20000 in
theorem gL_law_X4_time : GoodIn wsL_law (wsV RL 120 RX4 yX4_time wsX4_time) := goodIn_app (goodIn_of _ (by decide +kernel)) ggL_law_X4_time
set_option maxRecDepth 20000 in
theorem ggL_law_L_state : GoodIn wsL_law wsL_state := goodIn_ca (goodIn_r _ [477, 121, 478, 479, 480, 2, 481, 224, 132, 133, 134, 127, 128, 141, 142, 143, 144, 16, 17, 862, 863, 864, 865, 866, 867, 868, 869, 870, 871, 872, 873, 874, 875, 876, 877, 825, 826, 827, 828, 829, 830, 831, 832] (by decide +kernel) (by decide +kernel)) (goodIn_sub (fun _ h => List.mem_append_left _ (List.mem_append_left _ (List.mem_append_right _ h))) (by decide +kernel))
set_option maxRecDepth 20000 in
theorem gL_law_L_state : GoodIn wsL_law (va_wsS RL 121 yL_state wsL_state) := goodIn_app (goodIn_of _ (by decide +kernel)) ggL_law_L_state
set_option maxRecDepth 20000 in
theorem ggL_law_X4_state : GoodIn wsL_law wsX4_state := goodIn_r _ [485, 103, 161, 162, 5, 163, 164, 165, 166, 174, 175, 176, 177, 178, 833, 834, 835, 836, 837, 838, 839, 840, 841, 842, 843, 844, 845, 846, 847, 848, 849, 850, 851, 852, 853, 854, 855, 856, 857, 858, 859, 860, 861] (by decide +kernel) (by decide +kernel)
set_option maxRecDepth 20000 in
theorem gL_law_X4_state : GoodIn wsL_law (wsV RL 123 RX4 yX4_state wsX4_state) := goodIn_app (goodIn_of _ (by decide +kernel)) ggL_law_X4_state
set_option maxRecDepth 20000 in
theorem ggL_law_L_tries : GoodIn wsL_law wsL_tries := goodIn_ca (goodIn_r _ [488, 121, 489, 490, 491, 2, 492, 225, 132, 133, 134, 127, 128, 141, 142, 143, 144, 16, 17, 862, 863, 864, 865, 866, 867, 868, 869, 870, 871, 872, 873, 874, 875, 876, 877, 825, 826, 827, 828, 829, 830, 831, 832] (by decide +kernel) (by decide +kernel)) (goodIn_sub (fun _ h => List.mem_append_left _ (List.mem_append_left _ (List.mem_append_right _ h))) (by decide +kernel))
set_option maxRecDepth 20000 in
theorem gL_law_L_tries : GoodIn wsL_law (va_wsS RL 124 yL_tries wsL_tries) := goodIn_app (goodIn_of _ (by decide +kernel)) ggL_law_L_tries
set_option maxRecDepth 20000 in
theorem ggL_law_X4_tries : GoodIn wsL_law wsX4_tries := goodIn_r _ [496, 106, 161, 162, 5, 163, 164, 165, 166, 174, 175, 176, 177, 178, 833, 834, 835, 836, 837, 838, 839, 840, 841, 842, 843, 844, 845, 846, 847, 848, 849, 850, 851, 852, 853, 854, 855, 856, 857, 858, 859, 860, 861] (by decide +kernel) (by decide +kernel)
set_option maxRecDepth 20000 in
theorem gL_law_X4_tries : GoodIn wsL_law (wsV RL 126 RX4 yX4_tries wsX4_tries) := goodIn_app (goodIn_of _ (by decide +kernel)) ggL_law_X4_tries
set_option maxRecDepth 20000 in
theorem ggL_law_L_asked : GoodIn wsL_law wsL_asked := goodIn_ca (goodIn_r _ [499, 121, 500, 501, 502, 2, 503, 228, 132, 133, 134, 127, 128, 135, 136, 137, 141, 142, 143, 144, 16, 17, 862, 863, 864, 865, 866, 867, 868, 869, 870, 871, 872, 873, 874, 875, 876, 877, 825, 826, 827, 828, 829, 830, 831, 832] (by decide +kernel) (by decide +kernel)) (goodIn_sub (fun _ h => List.mem_append_left _ (List.mem_append_left _ (List.mem_append_right _ h))) (by decide +kernel))
set_option maxRecDepth 20000 in
theorem gL_law_L_asked : GoodIn wsL_law (va_wsS RL 127 yL_asked wsL_asked) := goodIn_app (goodIn_of _ (by decide +kernel)) ggL_law_L_asked
set_option maxRecDepth 20000 in
theorem ggL_law_X4_asked : GoodIn wsL_law wsX4_asked := goodIn_r _ [507, 101, 158, 159, 5, 160, 161, 162, 163, 164, 165, 166, 174, 175, 176, 177, 178, 833, 834, 835, 836, 837, 838, 839, 840, 841, 842, 843, 844, 845, 846, 847, 848, 849, 850, 851, 852, 853, 854, 855, 856, 857, 858, 859, 860, 861] (by decide +kernel) (by decide +kernel)
set_option maxRecDepth 20000 in
theorem gL_law_X4_asked : GoodIn wsL_law (wsV RL 130 RX4 yX4_asked wsX4_asked) := goodIn_app (goodIn_of _ (by decide +kernel)) ggL_law_X4_asked
set_option maxRecDepth 20000 in
theorem ggL_law_L_granted : GoodIn wsL_law wsL_granted := goodIn_ca (goodIn_r _ [510, 121, 511, 512, 513, 2, 514, 224, 228, 132, 133, 134, 127, 128, 135, 136, 137, 141, 142, 143, 144, 16, 17, 862, 863, 864, 865, 866, 867, 868, 869, 870, 871, 872, 873, 874, 875, 876, 877, 825, 826, 827, 828, 829, 830, 831, 832] (by decide +kernel) (by decide +kernel)) (goodIn_sub (fun _ h => List.mem_append_left _ (List.mem_append_left _ (List.mem_append_right _ h))) (by decide +kernel))
set_option maxRecDepth 20000 in
theorem gL_law_L_granted : GoodIn wsL_law (va_wsS RL 131 yL_granted wsL_granted) := goodIn_app (goodIn_of _ (by decide +kernel)) ggL_law_L_granted
set_option maxRecDepth 20000 in
theorem ggL_law_X4_granted : GoodIn wsL_law wsX4_granted := goodIn_r _ [518, 103, 101, 158, 159, 5, 160, 161, 162, 163, 164, 165, 166, 174, 175, 176, 177, 178, 833, 834, 835, 836, 837, 838, 839, 840, 841, 842, 843, 844, 845, 846, 847, 848, 849, 850, 851, 852, 853, 854, 855, 856, 857, 858, 859, 860, 861] (by decide +kernel) (by decide +kernel)
set_option maxRecDepth 20000 in
theorem gL_law_X4_granted : GoodIn wsL_law (wsV RL 133 RX4 yX4_granted wsX4_granted) := goodIn_app (goodIn_of _ (by decide +kernel)) ggL_law_X4_granted
set_option maxRecDepth 20000 in
theorem ggL_law_L_allowed : GoodIn wsL_law wsL_allowed := goodIn_ca (goodIn_r _ [521, 121, 522, 523, 524, 2, 525, 224, 343, 132, 133, 134, 127, 128, 135, 136, 137, 141, 142, 143, 144, 16, 17, 862, 863, 864, 865, 866, 867, 868, 869, 870, 871, 872, 873, 874, 875, 876, 877, 825, 826, 827, 828, 829, 830, 831, 832] (by decide +kernel) (by decide +kernel)) (goodIn_sub (fun _ h => List.mem_append_left _ (List.mem_append_left _ (List.mem_append_right _ h))) (by decide +kernel))
set_option maxRecDepth 20000 in
theorem gL_law_L_allowed : GoodIn wsL_law (va_wsS RL 134 yL_allowed wsL_allowed) := goodIn_app (goodIn_of _ (by decide +kernel)) ggL_law_L_allowed
set_option maxRecDepth 20000 in
theorem ggL_law_X4_allowed : GoodIn wsL_law wsX4_allowed := goodIn_r _ [529, 103, 102, 158, 159, 5, 160, 161, 162, 163, 164, 165, 166, 174, 175, 176, 177, 178, 833, 834, 835, 836, 837, 838, 839, 840, 841, 842, 843, 844, 845, 846, 847, 848, 849, 850, 851, 852, 853, 854, 855, 856, 857, 858, 859, 860, 861] (by decide +kernel) (by decide +kernel)
set_option maxRecDepth 20000 in
theorem gL_law_X4_allowed : GoodIn wsL_law (wsV RL 136 RX4 yX4_allowed wsX4_allowed) := goodIn_app (goodIn_of _ (by decide +kernel)) ggL_law_X4_allowed
set_option maxRecDepth 20000 in
theorem ggL_law_L_waiting : GoodIn wsL_law wsL_waiting := goodIn_ca (goodIn_r _ [532, 121, 533, 534, 535, 2, 536, 242, 304, 132, 133, 134, 127, 128, 141, 142, 143, 144, 16, 17, 862, 863, 864, 865, 866, 867, 868, 869, 870, 871, 872, 873, 874, 875, 876, 877, 886, 887, 888, 889, 890, 891, 825, 826, 827, 828, 829, 830, 831, 832] (by decide +kernel) (by decide +kernel)) (goodIn_sub (fun _ h => List.mem_append_left _ (List.mem_append_left _ (List.mem_append_right _ h))) (by decide +kernel))
set_option maxRecDepth 20000 in
theorem gL_law_L_waiting : GoodIn wsL_law (va_wsS RL 137 yL_waiting wsL_waiting) := goodIn_app (goodIn_of _ (by decide +kernel)) ggL_law_L_waiting
set_option maxRecDepth 20000 in
theorem ggL_law_X4_waiting : GoodIn wsL_law wsX4_waiting := goodIn_r _ [540, 110, 161, 162, 5, 163, 164, 165, 166, 174, 175, 176, 177, 178, 833, 834, 835, 836, 837, 838, 839, 840, 841, 842, 843, 844, 845, 846, 847, 848, 849, 850, 851, 852, 853, 854, 855, 856, 857, 858, 859, 860, 861] (by decide +kernel) (by decide +kernel)
set_option maxRecDepth 20000 in
theorem gL_law_X4_waiting : GoodIn wsL_law (wsV RL 139 RX4 yX4_waiting wsX4_waiting) := goodIn_app (goodIn_of _ (by decide +kernel)) ggL_law_X4_waiting
set_option maxRecDepth 20000 in
theorem ggL_law_L_kindAt : GoodIn wsL_law wsL_kindAt := goodIn_ca (goodIn_ca (goodIn_r _ [543, 121, 293, 544, 545, 546, 2, 547, 242, 132, 133, 134, 127, 128, 141, 142, 143, 144, 16, 17, 299, 300, 301, 302, 303, 304, 433, 434, 435, 46, 436, 58, 247, 248, 249, 250, 62, 862, 863, 864, 865, 866, 867, 868, 869, 870, 871, 872, 873, 874, 875, 876, 877, 825, 826, 827, 828, 829, 830, 831, 832, 886, 887, 888, 889, 890, 891] (by decide +kernel) (by decide +kernel)) (goodIn_sub (fun _ h => List.mem_append_left _ (List.mem_append_left _ (List.mem_append_right _ h))) (by decide +kernel))) (goodIn_sub (fun _ h => List.mem_append_right _ h) (by decide +kernel))
set_option maxRecDepth 20000 in
theorem gL_law_L_kindAt : GoodIn wsL_law (va_wsS RL 140 yL_kindAt wsL_kindAt) := goodIn_app (goodIn_of _ (by decide +kernel)) ggL_law_L_kindAt
set_option maxRecDepth 20000 in
theorem ggL_law_X4_kindAt : GoodIn wsL_law wsX4_kindAt := goodIn_r _ [551, 110, 111, 161, 162, 5, 163, 164, 165, 166, 174, 175, 176, 177, 178, 833, 834, 835, 836, 837, 838, 839, 840, 841, 842, 843, 844, 845, 846, 847, 848, 849, 850, 851, 852, 853, 854, 855, 856, 857, 858, 859, 860, 861] (by decide +kernel) (by decide +kernel)
set_option maxRecDepth 20000 in
theorem gL_law_X4_kindAt : GoodIn wsL_law (wsV RL 142 RX4 yX4_kindAt wsX4_kindAt) := goodIn_app (goodIn_of _ (by decide +kernel)) ggL_law_X4_kindAt
set_option maxRecDepth 20000 in
theorem ggL_law_L_lineLength : GoodIn wsL_law wsL_lineLength := goodIn_ca (goodIn_r _ [554, 121, 555, 556, 557, 2, 558, 30, 132, 133, 134, 127, 128, 141, 142, 143, 144, 16, 17, 559, 560, 561, 562, 224, 228, 563, 564, 565, 29, 566, 567, 568, 569, 570, 76, 571, 572, 81, 573, 574, 575, 576, 577, 578, 82, 579, 580, 581, 582, 583, 584, 585, 586, 587, 588, 589, 357, 358, 359, 590, 591, 592, 593, 594, 595, 596, 597, 598, 599, 600, 601, 602, 603, 80, 604, 361, 362, 605, 606, 607, 608, 609, 610, 611, 612, 613, 79, 614, 615, 616, 617, 618, 619, 620, 621, 622, 623, 624, 28, 625, 626, 85, 627, 628, 629, 630, 631, 632, 633, 634, 635, 636, 637, 638, 639, 640, 641, 642, 643, 644, 645, 646, 647, 648, 649, 650, 651, 652, 653, 654, 655, 656, 657, 658, 659, 660, 661, 662, 663, 664, 665, 666, 667, 668, 669, 670, 671, 672, 673, 674, 675, 676, 677, 678, 679, 680, 681, 682, 683, 684, 685, 686, 687, 688, 689, 690, 691, 692, 693, 694, 695, 83, 84, 86, 87, 88, 89, 90, 696, 697, 698, 699, 700, 701, 702, 703, 704, 705, 706, 707, 708, 709, 710, 711, 712, 713, 714, 715, 716, 717, 718, 719, 720, 721, 722, 723, 724, 725, 726, 727, 728, 729, 730, 731, 732, 733, 734, 735, 736, 737, 738, 739, 740, 741, 742, 743, 744, 745, 746, 747, 748, 749, 750, 751, 752, 753, 754, 755, 756, 757, 758, 759, 760, 761, 762, 763, 764, 765, 766, 767, 768, 769, 770, 771, 772, 825, 826, 827, 828, 829, 830, 831, 832, 862, 863, 864, 865, 866, 867, 868, 869, 870, 871, 872, 873, 874, 875, 876, 877, 882, 883, 884, 885, 892, 893, 894, 895] (by decide +kernel) (by decide +kernel)) (goodIn_sub (fun _ h => List.mem_append_left _ (List.mem_append_left _ (List.mem_append_right _ h))) (by decide +kernel))
set_option maxRecDepth 20000 in
theorem gL_law_L_lineLength : GoodIn wsL_law (va_wsS RL 143 yL_lineLength wsL_lineLength) := goodIn_app (goodIn_of _ (by decide +kernel)) ggL_law_L_lineLength
set_option maxRecDepth 20000 in
theorem ggL_law_X4_lineLength : GoodIn wsL_law wsX4_lineLength := goodIn_r _ [776, 161, 162, 5, 163, 164, 165, 166, 174, 175, 176, 177, 178, 777, 778, 779, 780, 103, 101, 781, 782, 783, 784, 785, 786, 787, 788, 789, 790, 791, 792, 793, 833, 834, 835, 836, 837, 838, 839, 840, 841, 842, 843, 844, 845, 846, 847, 848, 849, 850, 851, 852, 853, 854, 855, 856, 857, 858, 859, 860, 861] (by decide +kernel) (by decide +kernel)
set_option maxRecDepth 20000 in
theorem gL_law_X4_lineLength : GoodIn wsL_law (wsV RL 145 RX4 yX4_lineLength wsX4_lineLength) := goodIn_app (goodIn_of _ (by decide +kernel)) ggL_law_X4_lineLength
set_option maxRecDepth 20000 in
theorem ggL_law_L_lineChar : GoodIn wsL_law wsL_lineChar := goodIn_ca (goodIn_ca (goodIn_r _ [796, 121, 293, 797, 798, 799, 2, 800, 302, 303, 30, 132, 133, 134, 127, 128, 141, 142, 143, 144, 16, 17, 559, 560, 561, 562, 224, 228, 563, 564, 565, 29, 566, 567, 568, 569, 570, 76, 571, 572, 81, 573, 574, 575, 576, 577, 578, 82, 579, 580, 581, 582, 583, 584, 585, 586, 587, 588, 589, 357, 358, 359, 590, 591, 592, 593, 594, 595, 596, 597, 598, 599, 600, 601, 602, 603, 80, 604, 361, 362, 605, 606, 607, 608, 609, 610, 611, 612, 613, 79, 614, 615, 616, 617, 618, 619, 620, 621, 622, 623, 624, 28, 625, 626, 85, 627, 628, 629, 630, 631, 632, 633, 634, 635, 636, 637, 638, 639, 640, 641, 642, 643, 644, 645, 646, 647, 648, 649, 650, 651, 652, 653, 654, 655, 656, 657, 658, 659, 660, 661, 662, 663, 664, 665, 666, 667, 668, 669, 670, 671, 672, 673, 674, 675, 676, 677, 678, 679, 680, 681, 682, 683, 684, 685, 686, 687, 688, 689, 690, 691, 692, 693, 694, 695, 83, 84, 86, 87, 88, 89, 90, 696, 697, 698, 699, 700, 701, 702, 703, 704, 705, 706, 707, 708, 709, 710, 711, 712, 713, 714, 715, 716, 717, 718, 719, 720, 721, 722, 723, 724, 725, 726, 727, 728, 729, 730, 731, 732, 733, 734, 735, 736, 737, 738, 739, 740, 741, 742, 743, 744, 745, 746, 747, 748, 749, 750, 751, 752, 753, 754, 755, 756, 757, 758, 759, 760, 761, 762, 763, 764, 765, 766, 767, 768, 769, 770, 771, 772, 801, 802, 803, 804, 805, 806, 807, 808, 809, 810, 811, 812, 813, 825, 826, 827, 828, 829, 830, 831, 832, 862, 863, 864, 865, 866, 867, 868, 869, 870, 871, 872, 873, 874, 875, 876, 877, 882, 883, 884, 885, 892, 893, 894, 895] (by decide +kernel) (by decide +kernel)) (goodIn_sub (fun _ h => List.mem_append_right _ h) (by decide +kernel))) (goodIn_sub (fun _ h => List.mem_append_left _ (List.mem_append_left _ (List.mem_append_right _ h))) (by decide +kernel))
set_option maxRecDepth 20000 in
theorem gL_law_L_lineChar : GoodIn wsL_law (va_wsS RL 146 yL_lineChar wsL_lineChar) := goodIn_app (goodIn_of _ (by decide +kernel)) ggL_law_L_lineChar
set_option maxRecDepth 20000 in
theorem ggL_law_X4_lineChar : GoodIn wsL_law wsX4_lineChar := goodIn_r _ [817, 161, 162, 5, 163, 164, 165, 166, 777, 778, 779, 780, 103, 101, 781, 782, 783, 784, 785, 786, 787, 788, 789, 790, 791, 792, 793, 174, 175, 176, 177, 178, 818, 819, 820, 821, 822, 823, 824, 833, 834, 835, 836, 837, 838, 839, 840, 841, 842, 843, 844, 845, 846, 847, 848, 849, 850, 851, 852, 853, 854, 855, 856, 857, 858, 859, 860, 861] (by decide +kernel) (by decide +kernel)
set_option maxRecDepth 20000 in
theorem gL_law_X4_lineChar : GoodIn wsL_law (wsV RL 148 RX4 yX4_lineChar wsX4_lineChar) := goodIn_app (goodIn_of _ (by decide +kernel)) ggL_law_X4_lineChar
