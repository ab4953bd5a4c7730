/-! the words of the law's calls are of the tables -/
set_option maxRecDepth 20000 in
theorem wi_r9 : ∀ w ∈ wsL_law0_r9, w ∈ lw_tbl := in_p _ [359, 360, 361, 362, 363, 631, 364, 366, 10, 367, 632, 633, 634, 635, 638, 636, 637, 639, 640, 641, 642, 643, 644, 645] (by decide +kernel)
set_option maxRecDepth 20000 in
theorem wi_r10 : ∀ w ∈ wsL_law0_r10, w ∈ lw_tbl := in_p _ [646, 647, 649, 12, 650, 651, 652, 653, 654, 655, 656, 657, 658, 659, 660, 661, 662, 50, 665, 666, 667, 668, 669, 670] (by decide +kernel)
set_option maxRecDepth 20000 in
theorem wi_r11 : ∀ w ∈ wsL_law0_r11, w ∈ lw_tbl := in_p _ [671, 673, 674, 675, 676, 678, 680, 13, 681, 682, 683, 684, 685, 686, 687, 688, 689, 690, 692, 14, 693, 695, 696, 697] (by decide +kernel)
set_option maxRecDepth 20000 in
theorem wi_r12 : ∀ w ∈ wsL_law0_r12, w ∈ lw_tbl := in_p _ [698, 929, 930, 931, 932, 933, 934, 935, 936, 937, 939, 23, 940, 732, 42, 942, 943, 944, 946, 947, 948, 949, 728, 730] (by decide +kernel)
set_option maxRecDepth 20000 in
theorem wi_r13 : ∀ w ∈ wsL_law0_r13, w ∈ lw_tbl := in_p _ [15, 731, 708, 735, 737, 16, 738, 739, 740, 741, 53, 742, 714, 715, 716, 724, 725, 726, 727, 743, 744, 51, 745, 746] (by decide +kernel)
set_option maxRecDepth 20000 in
theorem wi_r14 : ∀ w ∈ wsL_law0_r14, w ∈ lw_tbl := in_p _ [747, 748, 749, 753, 755, 751, 750, 858, 859, 860, 861, 862, 855, 856, 857, 827, 832, 863, 865, 21, 866, 867, 869, 22] (by decide +kernel)
set_option maxRecDepth 20000 in
theorem wi_r15 : ∀ w ∈ wsL_law0_r15, w ∈ lw_tbl := in_p _ [870, 871, 872, 873, 54, 874, 838, 839, 875, 876, 877, 878, 879, 802, 803, 804, 805, 779, 768, 770, 17, 771, 806, 808] (by decide +kernel)
set_option maxRecDepth 20000 in
theorem wi_r16 : ∀ w ∈ wsL_law0_r16, w ∈ lw_tbl := in_p _ [18, 809, 810, 811, 812, 813, 815, 19, 816, 817, 764, 765, 766, 767, 773, 774, 775, 776, 779, 780, 52, 781, 782, 783] (by decide +kernel)
