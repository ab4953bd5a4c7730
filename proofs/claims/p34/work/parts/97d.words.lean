/-! the words of the law's calls are of the tables -/
set_option maxRecDepth 20000 in
theorem wi_r17 : ∀ w ∈ wsL_law0_r17, w ∈ lw_tbl := in_p _ [784, 785, 787, 789, 791, 1019, 1020, 1021, 901, 902, 903, 904, 905, 906, 907, 908, 909, 895, 896, 897, 910, 911, 912, 913] (by decide +kernel)
set_option maxRecDepth 20000 in
theorem wi_r18 : ∀ w ∈ wsL_law0_r18, w ∈ lw_tbl := in_p _ [914, 915, 898, 899, 900, 916, 917, 918, 699, 700, 701, 702, 708, 709, 703, 704, 705, 710, 711, 712, 713, 818, 819, 820] (by decide +kernel)
set_option maxRecDepth 20000 in
theorem wi_r19 : ∀ w ∈ wsL_law0_r19, w ∈ lw_tbl := in_p _ [821, 827, 833, 823, 825, 20, 826, 828, 829, 830, 831, 834, 835, 836, 837, 840, 849, 850, 851, 852, 854, 1013, 1014, 1015] (by decide +kernel)
set_option maxRecDepth 20000 in
theorem wi_r20 : ∀ w ∈ wsL_law0_r20, w ∈ lw_tbl := in_p _ [919, 920, 921, 889, 890, 891, 1016, 1017, 1018, 986, 987, 988, 989, 990, 991, 992, 993, 994, 995, 996, 997, 998, 999, 1000] (by decide +kernel)
set_option maxRecDepth 20000 in
theorem wi_r21 : ∀ w ∈ wsL_law0_r21, w ∈ lw_tbl := in_p _ [1001, 1002, 1003, 1004, 1005, 1006, 1007, 1008, 1009, 1010, 1011, 1012, 950, 951, 952, 953, 954, 955, 956, 957, 958, 959, 960, 961] (by decide +kernel)
set_option maxRecDepth 20000 in
theorem wi_r22 : ∀ w ∈ wsL_law0_r22, w ∈ lw_tbl := in_p _ [962, 963, 964, 965, 966, 967, 968, 969, 970, 971, 972, 973, 974, 975, 976, 977, 978, 979, 980, 981, 982, 983, 984, 985] (by decide +kernel)
