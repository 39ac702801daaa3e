set_option maxRecDepth 20000 in
theorem wsL_law_r22_in : ∀ w ∈ wsL_law_r22, w ∈ lw_tb2 := fun w h => (goodIn_p wsL_law_r22 [654, 659, 663, 240, 286] (by decide +kernel) (by decide +kernel) w h).1
set_option maxRecDepth 20000 in
theorem wsL_law_r23_in : ∀ w ∈ wsL_law_r23, w ∈ lw_tb2 := fun w h => (goodIn_p wsL_law_r23 [744, 748, 752, 756, 760, 429] (by decide +kernel) (by decide +kernel) w h).1
set_option maxRecDepth 20000 in
theorem wsL_law_r24_in : ∀ w ∈ wsL_law_r24, w ∈ lw_tb2 := fun w h => (goodIn_p wsL_law_r24 [433, 454, 458, 462, 425, 467] (by decide +kernel) (by decide +kernel) w h).1
set_option maxRecDepth 20000 in
theorem wsL_law_r25_in : ∀ w ∈ wsL_law_r25, w ∈ lw_tb2 := fun w h => (goodIn_p wsL_law_r25 [471, 475, 479, 482, 716, 364] (by decide +kernel) (by decide +kernel) w h).1
set_option maxRecDepth 20000 in
theorem wsL_law_r26_in : ∀ w ∈ wsL_law_r26, w ∈ lw_tb2 := fun w h => (goodIn_p wsL_law_r26 [368, 377, 388, 763, 356, 421, 766] (by decide +kernel) (by decide +kernel) w h).1
set_option maxRecDepth 20000 in
theorem wsL_law_r27_in : ∀ w ∈ wsL_law_r27, w ∈ lw_tb2 := fun w h => (goodIn_p wsL_law_r27 [741, 769, 773, 776, 781, 785] (by decide +kernel) (by decide +kernel) w h).1
set_option maxRecDepth 20000 in
theorem wsL_law_r28_in : ∀ w ∈ wsL_law_r28, w ∈ lw_tb2 := fun w h => (goodIn_p wsL_law_r28 [788, 796, 799, 802] (by decide +kernel) (by decide +kernel) w h).1
set_option maxRecDepth 20000 in
theorem wsL_law_r29_in : ∀ w ∈ wsL_law_r29, w ∈ lw_tb2 := fun w h => (goodIn_p wsL_law_r29 [810, 814, 821, 826, 830] (by decide +kernel) (by decide +kernel) w h).1
set_option maxRecDepth 20000 in
theorem wsL_law_r30_in : ∀ w ∈ wsL_law_r30, w ∈ lw_tb2 := fun w h => (goodIn_p wsL_law_r30 [834, 838, 842, 845, 850, 854] (by decide +kernel) (by decide +kernel) w h).1
set_option maxRecDepth 20000 in
theorem wsL_law_r31_in : ∀ w ∈ wsL_law_r31, w ∈ lw_tb2 := fun w h => (goodIn_p wsL_law_r31 [858, 862, 865, 870, 874] (by decide +kernel) (by decide +kernel) w h).1
set_option maxRecDepth 20000 in
theorem wsL_law_r32_in : ∀ w ∈ wsL_law_r32, w ∈ lw_tb2 := fun w h => (goodIn_p wsL_law_r32 [882, 885, 892, 896, 900] (by decide +kernel) (by decide +kernel) w h).1
set_option maxRecDepth 20000 in
theorem wsL_law_r33_in : ∀ w ∈ wsL_law_r33, w ∈ lw_tb2 := fun w h => (goodIn_p wsL_law_r33 [904, 908, 919, 925, 929, 933] (by decide +kernel) (by decide +kernel) w h).1
set_option maxRecDepth 20000 in
theorem wsL_law_r34_in : ∀ w ∈ wsL_law_r34, w ∈ lw_tb2 := fun w h => (goodIn_p wsL_law_r34 [937, 941, 1166, 1161, 944] (by decide +kernel) (by decide +kernel) w h).1
set_option maxRecDepth 20000 in
theorem wsL_law_r35_in : ∀ w ∈ wsL_law_r35, w ∈ lw_tb2 := fun w h => (goodIn_p wsL_law_r35 [949, 952, 957, 960, 979] (by decide +kernel) (by decide +kernel) w h).1
set_option maxRecDepth 20000 in
theorem wsL_law_r36_in : ∀ w ∈ wsL_law_r36, w ∈ lw_tb2 := fun w h => (goodIn_p wsL_law_r36 [982, 986, 990, 994, 997] (by decide +kernel) (by decide +kernel) w h).1
set_option maxRecDepth 20000 in
theorem wsL_law_r37_in : ∀ w ∈ wsL_law_r37, w ∈ lw_tb2 := fun w h => (goodIn_p wsL_law_r37 [1002, 1006, 1020, 1023] (by decide +kernel) (by decide +kernel) w h).1
set_option maxRecDepth 20000 in
theorem wsL_law_r38_in : ∀ w ∈ wsL_law_r38, w ∈ lw_tb2 := fun w h => (goodIn_p wsL_law_r38 [1026, 1029, 1032, 1035, 1040, 1044] (by decide +kernel) (by decide +kernel) w h).1
set_option maxRecDepth 20000 in
theorem wsL_law_r39_in : ∀ w ∈ wsL_law_r39, w ∈ lw_tb2 := fun w h => (goodIn_p wsL_law_r39 [1049, 1052, 1055, 1058, 1061, 1064, 1068] (by decide +kernel) (by decide +kernel) w h).1
set_option maxRecDepth 20000 in
theorem wsL_law_r40_in : ∀ w ∈ wsL_law_r40, w ∈ lw_tb2 := fun w h => (goodIn_p wsL_law_r40 [1074, 1077, 1080, 1083, 1090, 1093] (by decide +kernel) (by decide +kernel) w h).1
set_option maxRecDepth 20000 in
theorem wsL_law_r41_in : ∀ w ∈ wsL_law_r41, w ∈ lw_tb2 := fun w h => (goodIn_p wsL_law_r41 [1101, 1106, 1109, 1115] (by decide +kernel) (by decide +kernel) w h).1
set_option maxRecDepth 20000 in
theorem wsL_law_r42_in : ∀ w ∈ wsL_law_r42, w ∈ lw_tb2 := fun w h => (goodIn_p wsL_law_r42 [1121, 1123, 1127, 1130, 1133, 1136, 1139] (by decide +kernel) (by decide +kernel) w h).1
set_option maxRecDepth 20000 in
theorem wsL_law_r43_in : ∀ w ∈ wsL_law_r43, w ∈ lw_tb2 := fun w h => (goodIn_p wsL_law_r43 [1143] (by decide +kernel) (by decide +kernel) w h).1
