theorem dX4_forget_5 : decode cX4_forget 5 = .ok (.return_, 1) := by decide +kernel
set_option maxRecDepth 20000 in
theorem ggX5_wiredFrom_X2_count : GoodIn wsX5_wiredFrom wsX2_count := goodIn_r _ [5, 6, 12, 13, 14, 15, 16, 17, 18, 19, 20, 21] (by decide +kernel) (by decide +kernel)
set_option maxRecDepth 20000 in
theorem gX5_wiredFrom_X2_count : GoodIn wsX5_wiredFrom (wsV RX5 9 RX2 yX2_count wsX2_count) := goodIn_app (goodIn_of _ (by decide +kernel)) ggX5_wiredFrom_X2_count
set_option maxRecDepth 20000 in
theorem ggX5_wiredFrom_X2_sourcesOf : GoodIn wsX5_wiredFrom wsX2_sourcesOf := goodIn_r _ [10, 11, 12, 13, 14, 15, 16, 17, 18, 19, 20, 21] (by decide +kernel) (by decide +kernel)
set_option maxRecDepth 20000 in
theorem gX5_wiredFrom_X2_sourcesOf : GoodIn wsX5_wiredFrom (wsV RX5 15 RX2 yX2_sourcesOf wsX2_sourcesOf) := goodIn_app (goodIn_of _ (by decide +kernel)) ggX5_wiredFrom_X2_sourcesOf
theorem dX5_wiredFrom_0 : decode cX5_wiredFrom 0 = .ok (.iconst 0, 1) := by decide +kernel
theorem dX5_wiredFrom_1 : decode cX5_wiredFrom 1 = .ok (.istore_n 2, 1) := by decide +kernel
theorem dX5_wiredFrom_2 : decode cX5_wiredFrom 2 = .ok (.iconst 0, 1) := by decide +kernel
theorem dX5_wiredFrom_3 : decode cX5_wiredFrom 3 = .ok (.istore_n 3, 1) := by decide +kernel
theorem dX5_wiredFrom_4 : decode cX5_wiredFrom 4 = .ok (.iload_n 3, 1) := by decide +kernel
theorem dX5_wiredFrom_5 : decode cX5_wiredFrom 5 = .ok (.aload_n 0, 1) := by decide +kernel
theorem dX5_wiredFrom_6 : decode cX5_wiredFrom 6 = .ok (.invokevirtual 9, 3) := by decide +kernel
theorem dX5_wiredFrom_9 : decode cX5_wiredFrom 9 = .ok (.if_icmp .ge 25, 3) := by decide +kernel
theorem dX5_wiredFrom_12 : decode cX5_wiredFrom 12 = .ok (.aload_n 0, 1) := by decide +kernel
theorem dX5_wiredFrom_13 : decode cX5_wiredFrom 13 = .ok (.iload_n 3, 1) := by decide +kernel
theorem dX5_wiredFrom_14 : decode cX5_wiredFrom 14 = .ok (.invokevirtual 15, 3) := by decide +kernel
theorem dX5_wiredFrom_17 : decode cX5_wiredFrom 17 = .ok (.iload_n 1, 1) := by decide +kernel
theorem dX5_wiredFrom_18 : decode cX5_wiredFrom 18 = .ok (.iand, 1) := by decide +kernel
theorem dX5_wiredFrom_19 : decode cX5_wiredFrom 19 = .ok (.ifCond .eq 9, 3) := by decide +kernel
theorem dX5_wiredFrom_22 : decode cX5_wiredFrom 22 = .ok (.iload_n 2, 1) := by decide +kernel
theorem dX5_wiredFrom_23 : decode cX5_wiredFrom 23 = .ok (.iconst 1, 1) := by decide +kernel
theorem dX5_wiredFrom_24 : decode cX5_wiredFrom 24 = .ok (.iload_n 3, 1) := by decide +kernel
theorem dX5_wiredFrom_25 : decode cX5_wiredFrom 25 = .ok (.ishl, 1) := by decide +kernel
theorem dX5_wiredFrom_26 : decode cX5_wiredFrom 26 = .ok (.ior, 1) := by decide +kernel
theorem dX5_wiredFrom_27 : decode cX5_wiredFrom 27 = .ok (.istore_n 2, 1) := by decide +kernel
theorem dX5_wiredFrom_28 : decode cX5_wiredFrom 28 = .ok (.iinc 3 1, 3) := by decide +kernel
theorem dX5_wiredFrom_31 : decode cX5_wiredFrom 31 = .ok (.goto (-27), 3) := by decide +kernel
theorem dX5_wiredFrom_34 : decode cX5_wiredFrom 34 = .ok (.iload_n 2, 1) := by decide +kernel
theorem dX5_wiredFrom_35 : decode cX5_wiredFrom 35 = .ok (.ireturn, 1) := by decide +kernel
set_option maxRecDepth 20000 in
theorem ggX5_ledFrom_X5_wiredFrom : GoodIn wsX5_ledFrom wsX5_wiredFrom := goodIn_r _ [4, 5, 6, 7, 8, 9, 10, 11, 12, 13, 14, 15, 16, 17, 18, 19, 20, 21, 22, 23, 24, 25] (by decide +kernel) (by decide +kernel)
set_option maxRecDepth 20000 in
theorem gX5_ledFrom_X5_wiredFrom : GoodIn wsX5_ledFrom (va_wsS RX5 19 yX5_wiredFrom wsX5_wiredFrom) := goodIn_app (goodIn_of _ (by decide +kernel)) ggX5_ledFrom_X5_wiredFrom
theorem dX5_ledFrom_0 : decode cX5_ledFrom 0 = .ok (.aload_n 0, 1) := by decide +kernel
theorem dX5_ledFrom_1 : decode cX5_ledFrom 1 = .ok (.iconst 1, 1) := by decide +kernel
theorem dX5_ledFrom_2 : decode cX5_ledFrom 2 = .ok (.iload_n 1, 1) := by decide +kernel
theorem dX5_ledFrom_3 : decode cX5_ledFrom 3 = .ok (.ishl, 1) := by decide +kernel
theorem dX5_ledFrom_4 : decode cX5_ledFrom 4 = .ok (.invokestatic 19, 3) := by decide +kernel
theorem dX5_ledFrom_7 : decode cX5_ledFrom 7 = .ok (.istore_n 2, 1) := by decide +kernel
theorem dX5_ledFrom_8 : decode cX5_ledFrom 8 = .ok (.iconst 0, 1) := by decide +kernel
theorem dX5_ledFrom_9 : decode cX5_ledFrom 9 = .ok (.istore_n 3, 1) := by decide +kernel
theorem dX5_ledFrom_10 : decode cX5_ledFrom 10 = .ok (.iload_n 3, 1) := by decide +kernel
theorem dX5_ledFrom_11 : decode cX5_ledFrom 11 = .ok (.bipush 16, 2) := by decide +kernel
theorem dX5_ledFrom_13 : decode cX5_ledFrom 13 = .ok (.if_icmp .ge 30, 3) := by decide +kernel
theorem dX5_ledFrom_16 : decode cX5_ledFrom 16 = .ok (.iload_n 2, 1) := by decide +kernel
theorem dX5_ledFrom_17 : decode cX5_ledFrom 17 = .ok (.aload_n 0, 1) := by decide +kernel
theorem dX5_ledFrom_18 : decode cX5_ledFrom 18 = .ok (.iload_n 2, 1) := by decide +kernel
theorem dX5_ledFrom_19 : decode cX5_ledFrom 19 = .ok (.invokestatic 19, 3) := by decide +kernel
theorem dX5_ledFrom_22 : decode cX5_ledFrom 22 = .ok (.ior, 1) := by decide +kernel
theorem dX5_ledFrom_23 : decode cX5_ledFrom 23 = .ok (.istore 4, 2) := by decide +kernel
theorem dX5_ledFrom_25 : decode cX5_ledFrom 25 = .ok (.iload 4, 2) := by decide +kernel
theorem dX5_ledFrom_27 : decode cX5_ledFrom 27 = .ok (.iload_n 2, 1) := by decide +kernel
theorem dX5_ledFrom_28 : decode cX5_ledFrom 28 = .ok (.if_icmp .ne 6, 3) := by decide +kernel
theorem dX5_ledFrom_31 : decode cX5_ledFrom 31 = .ok (.goto 12, 3) := by decide +kernel
theorem dX5_ledFrom_34 : decode cX5_ledFrom 34 = .ok (.iload 4, 2) := by decide +kernel
theorem dX5_ledFrom_36 : decode cX5_ledFrom 36 = .ok (.istore_n 2, 1) := by decide +kernel
theorem dX5_ledFrom_37 : decode cX5_ledFrom 37 = .ok (.iinc 3 1, 3) := by decide +kernel
theorem dX5_ledFrom_40 : decode cX5_ledFrom 40 = .ok (.goto (-30), 3) := by decide +kernel
theorem dX5_ledFrom_43 : decode cX5_ledFrom 43 = .ok (.iload_n 2, 1) := by decide +kernel
theorem dX5_ledFrom_44 : decode cX5_ledFrom 44 = .ok (.ireturn, 1) := by decide +kernel
set_option maxRecDepth 20000 in
theorem ggX5_inLoops_X2_count : GoodIn wsX5_inLoops wsX2_count := goodIn_r _ [5, 6, 22, 23, 24, 25, 26, 27, 28, 29, 30, 31] (by decide +kernel) (by decide +kernel)
set_option maxRecDepth 20000 in
theorem gX5_inLoops_X2_count : GoodIn wsX5_inLoops (wsV RX5 9 RX2 yX2_count wsX2_count) := goodIn_app (goodIn_of _ (by decide +kernel)) ggX5_inLoops_X2_count
set_option maxRecDepth 20000 in
theorem ggX5_inLoops_X5_ledFrom : GoodIn wsX5_inLoops wsX5_ledFrom := goodIn_r _ [10, 11, 12, 9, 13, 1, 2, 3, 4, 5, 6, 14, 15, 16, 17, 18, 22, 23, 24, 25, 26, 27, 28, 29, 30, 31] (by decide +kernel) (by decide +kernel)
set_option maxRecDepth 20000 in
theorem gX5_inLoops_X5_ledFrom : GoodIn wsX5_inLoops (va_wsS RX5 25 yX5_ledFrom wsX5_ledFrom) := goodIn_app (goodIn_of _ (by decide +kernel)) ggX5_inLoops_X5_ledFrom
set_option maxRecDepth 20000 in
theorem ggX5_inLoops_X9_isIn : GoodIn wsX5_inLoops wsX9_isIn := goodIn_r _ [21] (by decide +kernel) (by decide +kernel)
set_option maxRecDepth 20000 in
theorem gX5_inLoops_X9_isIn_n28 : GoodIn wsX5_inLoops (wsX9_isIn) := ggX5_inLoops_X9_isIn
theorem dX5_inLoops_0 : decode cX5_inLoops 0 = .ok (.iconst 0, 1) := by decide +kernel
theorem dX5_inLoops_1 : decode cX5_inLoops 1 = .ok (.istore_n 1, 1) := by decide +kernel
theorem dX5_inLoops_2 : decode cX5_inLoops 2 = .ok (.iconst 0, 1) := by decide +kernel
theorem dX5_inLoops_3 : decode cX5_inLoops 3 = .ok (.istore_n 2, 1) := by decide +kernel
theorem dX5_inLoops_4 : decode cX5_inLoops 4 = .ok (.iload_n 2, 1) := by decide +kernel
theorem dX5_inLoops_5 : decode cX5_inLoops 5 = .ok (.aload_n 0, 1) := by decide +kernel
theorem dX5_inLoops_6 : decode cX5_inLoops 6 = .ok (.invokevirtual 9, 3) := by decide +kernel
theorem dX5_inLoops_9 : decode cX5_inLoops 9 = .ok (.if_icmp .ge 27, 3) := by decide +kernel
theorem dX5_inLoops_12 : decode cX5_inLoops 12 = .ok (.aload_n 0, 1) := by decide +kernel
theorem dX5_inLoops_13 : decode cX5_inLoops 13 = .ok (.iload_n 2, 1) := by decide +kernel
theorem dX5_inLoops_14 : decode cX5_inLoops 14 = .ok (.invokestatic 25, 3) := by decide +kernel
theorem dX5_inLoops_17 : decode cX5_inLoops 17 = .ok (.iload_n 2, 1) := by decide +kernel
theorem dX5_inLoops_18 : decode cX5_inLoops 18 = .ok (.invokestatic 28, 3) := by decide +kernel
theorem dX5_inLoops_21 : decode cX5_inLoops 21 = .ok (.ifCond .eq 9, 3) := by decide +kernel
theorem dX5_inLoops_24 : decode cX5_inLoops 24 = .ok (.iload_n 1, 1) := by decide +kernel
theorem dX5_inLoops_25 : decode cX5_inLoops 25 = .ok (.iconst 1, 1) := by decide +kernel
theorem dX5_inLoops_26 : decode cX5_inLoops 26 = .ok (.iload_n 2, 1) := by decide +kernel
theorem dX5_inLoops_27 : decode cX5_inLoops 27 = .ok (.ishl, 1) := by decide +kernel
theorem dX5_inLoops_28 : decode cX5_inLoops 28 = .ok (.ior, 1) := by decide +kernel
theorem dX5_inLoops_29 : decode cX5_inLoops 29 = .ok (.istore_n 1, 1) := by decide +kernel
theorem dX5_inLoops_30 : decode cX5_inLoops 30 = .ok (.iinc 2 1, 3) := by decide +kernel
theorem dX5_inLoops_33 : decode cX5_inLoops 33 = .ok (.goto (-29), 3) := by decide +kernel
theorem dX5_inLoops_36 : decode cX5_inLoops 36 = .ok (.iload_n 1, 1) := by decide +kernel
theorem dX5_inLoops_37 : decode cX5_inLoops 37 = .ok (.ireturn, 1) := by decide +kernel
set_option maxRecDepth 20000 in
theorem ggX5_switchesTo_X2_count : GoodIn wsX5_switchesTo wsX2_count := goodIn_r _ [5, 6, 31, 32, 33, 34, 35, 36, 37, 38, 39, 40] (by decide +kernel) (by decide +kernel)
set_option maxRecDepth 20000 in
theorem gX5_switchesTo_X2_count : GoodIn wsX5_switchesTo (wsV RX5 9 RX2 yX2_count wsX2_count) := goodIn_app (goodIn_of _ (by decide +kernel)) ggX5_switchesTo_X2_count
set_option maxRecDepth 20000 in
theorem ggX5_switchesTo_X2_isSwitch : GoodIn wsX5_switchesTo wsX2_isSwitch := goodIn_r _ [10, 11, 12, 13, 14, 4, 15, 6, 31, 32, 33, 34, 35, 36, 37, 38, 39, 40] (by decide +kernel) (by decide +kernel)
set_option maxRecDepth 20000 in
theorem gX5_switchesTo_X2_isSwitch : GoodIn wsX5_switchesTo (wsV RX5 32 RX2 yX2_isSwitch wsX2_isSwitch) := goodIn_app (goodIn_of _ (by decide +kernel)) ggX5_switchesTo_X2_isSwitch
set_option maxRecDepth 20000 in
theorem ggX5_switchesTo_X5_ledFrom : GoodIn wsX5_switchesTo wsX5_ledFrom := goodIn_r _ [19, 20, 21, 18, 22, 1, 2, 3, 4, 5, 6, 23, 24, 25, 26, 27, 31, 32, 33, 34, 35, 36, 37, 38, 39, 40] (by decide +kernel) (by decide +kernel)
set_option maxRecDepth 20000 in
theorem gX5_switchesTo_X5_ledFrom : GoodIn wsX5_switchesTo (va_wsS RX5 25 yX5_ledFrom wsX5_ledFrom) := goodIn_app (goodIn_of _ (by decide +kernel)) ggX5_switchesTo_X5_ledFrom
set_option maxRecDepth 20000 in
theorem ggX5_switchesTo_X9_isIn : GoodIn wsX5_switchesTo wsX9_isIn := goodIn_r _ [30] (by decide +kernel) (by decide +kernel)
set_option maxRecDepth 20000 in
theorem gX5_switchesTo_X9_isIn_n28 : GoodIn wsX5_switchesTo (wsX9_isIn) := ggX5_switchesTo_X9_isIn
theorem dX5_switchesTo_0 : decode cX5_switchesTo 0 = .ok (.iconst 0, 1) := by decide +kernel
theorem dX5_switchesTo_1 : decode cX5_switchesTo 1 = .ok (.istore_n 2, 1) := by decide +kernel
theorem dX5_switchesTo_2 : decode cX5_switchesTo 2 = .ok (.iconst 0, 1) := by decide +kernel
theorem dX5_switchesTo_3 : decode cX5_switchesTo 3 = .ok (.istore_n 3, 1) := by decide +kernel
theorem dX5_switchesTo_4 : decode cX5_switchesTo 4 = .ok (.iload_n 3, 1) := by decide +kernel
theorem dX5_switchesTo_5 : decode cX5_switchesTo 5 = .ok (.aload_n 0, 1) := by decide +kernel
theorem dX5_switchesTo_6 : decode cX5_switchesTo 6 = .ok (.invokevirtual 9, 3) := by decide +kernel
theorem dX5_switchesTo_9 : decode cX5_switchesTo 9 = .ok (.if_icmp .ge 35, 3) := by decide +kernel
theorem dX5_switchesTo_12 : decode cX5_switchesTo 12 = .ok (.aload_n 0, 1) := by decide +kernel
theorem dX5_switchesTo_13 : decode cX5_switchesTo 13 = .ok (.iload_n 3, 1) := by decide +kernel
theorem dX5_switchesTo_14 : decode cX5_switchesTo 14 = .ok (.invokevirtual 32, 3) := by decide +kernel
theorem dX5_switchesTo_17 : decode cX5_switchesTo 17 = .ok (.ifCond .eq 21, 3) := by decide +kernel
theorem dX5_switchesTo_20 : decode cX5_switchesTo 20 = .ok (.aload_n 0, 1) := by decide +kernel
theorem dX5_switchesTo_21 : decode cX5_switchesTo 21 = .ok (.iload_n 3, 1) := by decide +kernel
theorem dX5_switchesTo_22 : decode cX5_switchesTo 22 = .ok (.invokestatic 25, 3) := by decide +kernel
theorem dX5_switchesTo_25 : decode cX5_switchesTo 25 = .ok (.iload_n 1, 1) := by decide +kernel
theorem dX5_switchesTo_26 : decode cX5_switchesTo 26 = .ok (.invokestatic 28, 3) := by decide +kernel
theorem dX5_switchesTo_29 : decode cX5_switchesTo 29 = .ok (.ifCond .eq 9, 3) := by decide +kernel
theorem dX5_switchesTo_32 : decode cX5_switchesTo 32 = .ok (.iload_n 2, 1) := by decide +kernel
theorem dX5_switchesTo_33 : decode cX5_switchesTo 33 = .ok (.iconst 1, 1) := by decide +kernel
theorem dX5_switchesTo_34 : decode cX5_switchesTo 34 = .ok (.iload_n 3, 1) := by decide +kernel
theorem dX5_switchesTo_35 : decode cX5_switchesTo 35 = .ok (.ishl, 1) := by decide +kernel
theorem dX5_switchesTo_36 : decode cX5_switchesTo 36 = .ok (.ior, 1) := by decide +kernel
theorem dX5_switchesTo_37 : decode cX5_switchesTo 37 = .ok (.istore_n 2, 1) := by decide +kernel
theorem dX5_switchesTo_38 : decode cX5_switchesTo 38 = .ok (.iinc 3 1, 3) := by decide +kernel
theorem dX5_switchesTo_41 : decode cX5_switchesTo 41 = .ok (.goto (-37), 3) := by decide +kernel
theorem dX5_switchesTo_44 : decode cX5_switchesTo 44 = .ok (.iload_n 2, 1) := by decide +kernel
theorem dX5_switchesTo_45 : decode cX5_switchesTo 45 = .ok (.ireturn, 1) := by decide +kernel
set_option maxRecDepth 20000 in
theorem ggX5_fewestWires_X9_isIn : GoodIn wsX5_fewestWires wsX9_isIn := goodIn_r _ [3] (by decide +kernel) (by decide +kernel)
set_option maxRecDepth 20000 in
theorem gX5_fewestWires_X9_isIn_n28 : GoodIn wsX5_fewestWires (wsX9_isIn) := ggX5_fewestWires_X9_isIn
set_option maxRecDepth 20000 in
theorem ggX5_fewestWires_X5_wiredFrom : GoodIn wsX5_fewestWires wsX5_wiredFrom := goodIn_r _ [7, 8, 9, 10, 11, 12, 13, 14, 15, 16, 17, 18, 19, 20, 21, 22, 23, 24, 25, 26, 27, 28] (by decide +kernel) (by decide +kernel)
set_option maxRecDepth 20000 in
theorem gX5_fewestWires_X5_wiredFrom : GoodIn wsX5_fewestWires (va_wsS RX5 19 yX5_wiredFrom wsX5_wiredFrom) := goodIn_app (goodIn_of _ (by decide +kernel)) ggX5_fewestWires_X5_wiredFrom
theorem dX5_fewestWires_0 : decode cX5_fewestWires 0 = .ok (.iconst 1, 1) := by decide +kernel
theorem dX5_fewestWires_1 : decode cX5_fewestWires 1 = .ok (.iload_n 1, 1) := by decide +kernel
theorem dX5_fewestWires_2 : decode cX5_fewestWires 2 = .ok (.ishl, 1) := by decide +kernel
theorem dX5_fewestWires_3 : decode cX5_fewestWires 3 = .ok (.istore_n 3, 1) := by decide +kernel
theorem dX5_fewestWires_4 : decode cX5_fewestWires 4 = .ok (.iconst 0, 1) := by decide +kernel
theorem dX5_fewestWires_5 : decode cX5_fewestWires 5 = .ok (.istore 4, 2) := by decide +kernel
theorem dX5_fewestWires_7 : decode cX5_fewestWires 7 = .ok (.iload 4, 2) := by decide +kernel
theorem dX5_fewestWires_9 : decode cX5_fewestWires 9 = .ok (.bipush 16, 2) := by decide +kernel
theorem dX5_fewestWires_11 : decode cX5_fewestWires 11 = .ok (.if_icmp .ge 28, 3) := by decide +kernel
theorem dX5_fewestWires_14 : decode cX5_fewestWires 14 = .ok (.iload_n 3, 1) := by decide +kernel
theorem dX5_fewestWires_15 : decode cX5_fewestWires 15 = .ok (.iload_n 2, 1) := by decide +kernel
theorem dX5_fewestWires_16 : decode cX5_fewestWires 16 = .ok (.invokestatic 28, 3) := by decide +kernel
theorem dX5_fewestWires_19 : decode cX5_fewestWires 19 = .ok (.ifCond .eq 6, 3) := by decide +kernel
theorem dX5_fewestWires_22 : decode cX5_fewestWires 22 = .ok (.iload 4, 2) := by decide +kernel
theorem dX5_fewestWires_24 : decode cX5_fewestWires 24 = .ok (.ireturn, 1) := by decide +kernel
theorem dX5_fewestWires_25 : decode cX5_fewestWires 25 = .ok (.iload_n 3, 1) := by decide +kernel
theorem dX5_fewestWires_26 : decode cX5_fewestWires 26 = .ok (.aload_n 0, 1) := by decide +kernel
theorem dX5_fewestWires_27 : decode cX5_fewestWires 27 = .ok (.iload_n 3, 1) := by decide +kernel
theorem dX5_fewestWires_28 : decode cX5_fewestWires 28 = .ok (.invokestatic 19, 3) := by decide +kernel
theorem dX5_fewestWires_31 : decode cX5_fewestWires 31 = .ok (.ior, 1) := by decide +kernel
theorem dX5_fewestWires_32 : decode cX5_fewestWires 32 = .ok (.istore_n 3, 1) := by decide +kernel
theorem dX5_fewestWires_33 : decode cX5_fewestWires 33 = .ok (.iinc 4 1, 3) := by decide +kernel
theorem dX5_fewestWires_36 : decode cX5_fewestWires 36 = .ok (.goto (-29), 3) := by decide +kernel
theorem dX5_fewestWires_39 : decode cX5_fewestWires 39 = .ok (.bipush (-15), 2) := by decide +kernel
theorem dX5_fewestWires_41 : decode cX5_fewestWires 41 = .ok (.ireturn, 1) := by decide +kernel
theorem dX6_init_0 : decode cX6_init 0 = .ok (.aload_n 0, 1) := by decide +kernel
theorem dX6_init_1 : decode cX6_init 1 = .ok (.invokespecial 3, 3) := by decide +kernel
theorem dX6_init_4 : decode cX6_init 4 = .ok (.aload_n 0, 1) := by decide +kernel
theorem dX6_init_5 : decode cX6_init 5 = .ok (.iconst 3, 1) := by decide +kernel
theorem dX6_init_6 : decode cX6_init 6 = .ok (.newarray .int, 2) := by decide +kernel
theorem dX6_init_8 : decode cX6_init 8 = .ok (.putfield 11, 3) := by decide +kernel
theorem dX6_init_11 : decode cX6_init 11 = .ok (.aload_n 0, 1) := by decide +kernel
theorem dX6_init_12 : decode cX6_init 12 = .ok (.iconst 3, 1) := by decide +kernel
theorem dX6_init_13 : decode cX6_init 13 = .ok (.newarray .int, 2) := by decide +kernel
theorem dX6_init_15 : decode cX6_init 15 = .ok (.putfield 15, 3) := by decide +kernel
theorem dX6_init_18 : decode cX6_init 18 = .ok (.return_, 1) := by decide +kernel
theorem dX6_start_0 : decode cX6_start 0 = .ok (.aload_n 0, 1) := by decide +kernel
theorem dX6_start_1 : decode cX6_start 1 = .ok (.getfield 11, 3) := by decide +kernel
theorem dX6_start_4 : decode cX6_start 4 = .ok (.iconst 0, 1) := by decide +kernel
theorem dX6_start_5 : decode cX6_start 5 = .ok (.iload_n 1, 1) := by decide +kernel
theorem dX6_start_6 : decode cX6_start 6 = .ok (.iastore, 1) := by decide +kernel
theorem dX6_start_7 : decode cX6_start 7 = .ok (.aload_n 0, 1) := by decide +kernel
theorem dX6_start_8 : decode cX6_start 8 = .ok (.getfield 15, 3) := by decide +kernel
theorem dX6_start_11 : decode cX6_start 11 = .ok (.iconst 0, 1) := by decide +kernel
theorem dX6_start_12 : decode cX6_start 12 = .ok (.iload_n 2, 1) := by decide +kernel
theorem dX6_start_13 : decode cX6_start 13 = .ok (.iastore, 1) := by decide +kernel
theorem dX6_start_14 : decode cX6_start 14 = .ok (.aload_n 0, 1) := by decide +kernel
theorem dX6_start_15 : decode cX6_start 15 = .ok (.iconst 1, 1) := by decide +kernel
theorem dX6_start_16 : decode cX6_start 16 = .ok (.putfield 18, 3) := by decide +kernel
theorem dX6_start_19 : decode cX6_start 19 = .ok (.return_, 1) := by decide +kernel
theorem dX6_putBehind_0 : decode cX6_putBehind 0 = .ok (.aload_n 0, 1) := by decide +kernel
theorem dX6_putBehind_1 : decode cX6_putBehind 1 = .ok (.getfield 18, 3) := by decide +kernel
theorem dX6_putBehind_4 : decode cX6_putBehind 4 = .ok (.ifCond .lt 41, 3) := by decide +kernel
theorem dX6_putBehind_7 : decode cX6_putBehind 7 = .ok (.aload_n 0, 1) := by decide +kernel
theorem dX6_putBehind_8 : decode cX6_putBehind 8 = .ok (.getfield 18, 3) := by decide +kernel
theorem dX6_putBehind_11 : decode cX6_putBehind 11 = .ok (.iconst 3, 1) := by decide +kernel
theorem dX6_putBehind_12 : decode cX6_putBehind 12 = .ok (.if_icmp .ge 33, 3) := by decide +kernel
theorem dX6_putBehind_15 : decode cX6_putBehind 15 = .ok (.aload_n 0, 1) := by decide +kernel
theorem dX6_putBehind_16 : decode cX6_putBehind 16 = .ok (.getfield 11, 3) := by decide +kernel
theorem dX6_putBehind_19 : decode cX6_putBehind 19 = .ok (.aload_n 0, 1) := by decide +kernel
theorem dX6_putBehind_20 : decode cX6_putBehind 20 = .ok (.getfield 18, 3) := by decide +kernel
theorem dX6_putBehind_23 : decode cX6_putBehind 23 = .ok (.iload_n 1, 1) := by decide +kernel
theorem dX6_putBehind_24 : decode cX6_putBehind 24 = .ok (.iastore, 1) := by decide +kernel
theorem dX6_putBehind_25 : decode cX6_putBehind 25 = .ok (.aload_n 0, 1) := by decide +kernel
theorem dX6_putBehind_26 : decode cX6_putBehind 26 = .ok (.getfield 15, 3) := by decide +kernel
theorem dX6_putBehind_29 : decode cX6_putBehind 29 = .ok (.aload_n 0, 1) := by decide +kernel
theorem dX6_putBehind_30 : decode cX6_putBehind 30 = .ok (.getfield 18, 3) := by decide +kernel
theorem dX6_putBehind_33 : decode cX6_putBehind 33 = .ok (.iload_n 2, 1) := by decide +kernel
theorem dX6_putBehind_34 : decode cX6_putBehind 34 = .ok (.iastore, 1) := by decide +kernel
theorem dX6_putBehind_35 : decode cX6_putBehind 35 = .ok (.aload_n 0, 1) := by decide +kernel
theorem dX6_putBehind_36 : decode cX6_putBehind 36 = .ok (.dup, 1) := by decide +kernel
theorem dX6_putBehind_37 : decode cX6_putBehind 37 = .ok (.getfield 18, 3) := by decide +kernel
theorem dX6_putBehind_40 : decode cX6_putBehind 40 = .ok (.iconst 1, 1) := by decide +kernel
theorem dX6_putBehind_41 : decode cX6_putBehind 41 = .ok (.iadd, 1) := by decide +kernel
theorem dX6_putBehind_42 : decode cX6_putBehind 42 = .ok (.putfield 18, 3) := by decide +kernel
theorem dX6_putBehind_45 : decode cX6_putBehind 45 = .ok (.return_, 1) := by decide +kernel
theorem dX6_putAhead_0 : decode cX6_putAhead 0 = .ok (.aload_n 0, 1) := by decide +kernel
theorem dX6_putAhead_1 : decode cX6_putAhead 1 = .ok (.getfield 18, 3) := by decide +kernel
theorem dX6_putAhead_4 : decode cX6_putAhead 4 = .ok (.iconst 2, 1) := by decide +kernel
theorem dX6_putAhead_5 : decode cX6_putAhead 5 = .ok (.invokestatic 22, 3) := by decide +kernel
theorem dX6_putAhead_8 : decode cX6_putAhead 8 = .ok (.istore_n 3, 1) := by decide +kernel
theorem dX6_putAhead_9 : decode cX6_putAhead 9 = .ok (.iload_n 3, 1) := by decide +kernel
theorem dX6_putAhead_10 : decode cX6_putAhead 10 = .ok (.istore 4, 2) := by decide +kernel
theorem dX6_putAhead_12 : decode cX6_putAhead 12 = .ok (.iload 4, 2) := by decide +kernel
theorem dX6_putAhead_14 : decode cX6_putAhead 14 = .ok (.ifCond .le 41, 3) := by decide +kernel
theorem dX6_putAhead_17 : decode cX6_putAhead 17 = .ok (.aload_n 0, 1) := by decide +kernel
theorem dX6_putAhead_18 : decode cX6_putAhead 18 = .ok (.getfield 11, 3) := by decide +kernel
theorem dX6_putAhead_21 : decode cX6_putAhead 21 = .ok (.iload 4, 2) := by decide +kernel
theorem dX6_putAhead_23 : decode cX6_putAhead 23 = .ok (.aload_n 0, 1) := by decide +kernel
theorem dX6_putAhead_24 : decode cX6_putAhead 24 = .ok (.getfield 11, 3) := by decide +kernel
theorem dX6_putAhead_27 : decode cX6_putAhead 27 = .ok (.iload 4, 2) := by decide +kernel
theorem dX6_putAhead_29 : decode cX6_putAhead 29 = .ok (.iconst 1, 1) := by decide +kernel
theorem dX6_putAhead_30 : decode cX6_putAhead 30 = .ok (.isub, 1) := by decide +kernel
theorem dX6_putAhead_31 : decode cX6_putAhead 31 = .ok (.iaload, 1) := by decide +kernel
theorem dX6_putAhead_32 : decode cX6_putAhead 32 = .ok (.iastore, 1) := by decide +kernel
theorem dX6_putAhead_33 : decode cX6_putAhead 33 = .ok (.aload_n 0, 1) := by decide +kernel
theorem dX6_putAhead_34 : decode cX6_putAhead 34 = .ok (.getfield 15, 3) := by decide +kernel
theorem dX6_putAhead_37 : decode cX6_putAhead 37 = .ok (.iload 4, 2) := by decide +kernel
theorem dX6_putAhead_39 : decode cX6_putAhead 39 = .ok (.aload_n 0, 1) := by decide +kernel
theorem dX6_putAhead_40 : decode cX6_putAhead 40 = .ok (.getfield 15, 3) := by decide +kernel
theorem dX6_putAhead_43 : decode cX6_putAhead 43 = .ok (.iload 4, 2) := by decide +kernel
theorem dX6_putAhead_45 : decode cX6_putAhead 45 = .ok (.iconst 1, 1) := by decide +kernel
theorem dX6_putAhead_46 : decode cX6_putAhead 46 = .ok (.isub, 1) := by decide +kernel
theorem dX6_putAhead_47 : decode cX6_putAhead 47 = .ok (.iaload, 1) := by decide +kernel
theorem dX6_putAhead_48 : decode cX6_putAhead 48 = .ok (.iastore, 1) := by decide +kernel
theorem dX6_putAhead_49 : decode cX6_putAhead 49 = .ok (.iinc 4 (-1), 3) := by decide +kernel
theorem dX6_putAhead_52 : decode cX6_putAhead 52 = .ok (.goto (-40), 3) := by decide +kernel
theorem dX6_putAhead_55 : decode cX6_putAhead 55 = .ok (.aload_n 0, 1) := by decide +kernel
theorem dX6_putAhead_56 : decode cX6_putAhead 56 = .ok (.getfield 11, 3) := by decide +kernel
theorem dX6_putAhead_59 : decode cX6_putAhead 59 = .ok (.iconst 0, 1) := by decide +kernel
theorem dX6_putAhead_60 : decode cX6_putAhead 60 = .ok (.iload_n 1, 1) := by decide +kernel
theorem dX6_putAhead_61 : decode cX6_putAhead 61 = .ok (.iastore, 1) := by decide +kernel
theorem dX6_putAhead_62 : decode cX6_putAhead 62 = .ok (.aload_n 0, 1) := by decide +kernel
theorem dX6_putAhead_63 : decode cX6_putAhead 63 = .ok (.getfield 15, 3) := by decide +kernel
theorem dX6_putAhead_66 : decode cX6_putAhead 66 = .ok (.iconst 0, 1) := by decide +kernel
theorem dX6_putAhead_67 : decode cX6_putAhead 67 = .ok (.iload_n 2, 1) := by decide +kernel
theorem dX6_putAhead_68 : decode cX6_putAhead 68 = .ok (.iastore, 1) := by decide +kernel
theorem dX6_putAhead_69 : decode cX6_putAhead 69 = .ok (.aload_n 0, 1) := by decide +kernel
theorem dX6_putAhead_70 : decode cX6_putAhead 70 = .ok (.iload_n 3, 1) := by decide +kernel
theorem dX6_putAhead_71 : decode cX6_putAhead 71 = .ok (.iconst 1, 1) := by decide +kernel
theorem dX6_putAhead_72 : decode cX6_putAhead 72 = .ok (.iadd, 1) := by decide +kernel
theorem dX6_putAhead_73 : decode cX6_putAhead 73 = .ok (.putfield 18, 3) := by decide +kernel
theorem dX6_putAhead_76 : decode cX6_putAhead 76 = .ok (.return_, 1) := by decide +kernel
set_option maxRecDepth 20000 in
theorem ggX6_numberAt_X6_isKept : GoodIn wsX6_numberAt wsX6_isKept := goodIn_r _ [6, 7, 8, 9, 10] (by decide +kernel) (by decide +kernel)
set_option maxRecDepth 20000 in
theorem gX6_numberAt_X6_isKept : GoodIn wsX6_numberAt (wsV RX6 28 RX6 yX6_isKept wsX6_isKept) := goodIn_app (goodIn_of _ (by decide +kernel)) ggX6_numberAt_X6_isKept
theorem dX6_numberAt_0 : decode cX6_numberAt 0 = .ok (.aload_n 0, 1) := by decide +kernel
theorem dX6_numberAt_1 : decode cX6_numberAt 1 = .ok (.iload_n 1, 1) := by decide +kernel
theorem dX6_numberAt_2 : decode cX6_numberAt 2 = .ok (.invokevirtual 28, 3) := by decide +kernel
theorem dX6_numberAt_5 : decode cX6_numberAt 5 = .ok (.ifCond .eq 12, 3) := by decide +kernel
theorem dX6_numberAt_8 : decode cX6_numberAt 8 = .ok (.aload_n 0, 1) := by decide +kernel
theorem dX6_numberAt_9 : decode cX6_numberAt 9 = .ok (.getfield 11, 3) := by decide +kernel
theorem dX6_numberAt_12 : decode cX6_numberAt 12 = .ok (.iload_n 1, 1) := by decide +kernel
theorem dX6_numberAt_13 : decode cX6_numberAt 13 = .ok (.iaload, 1) := by decide +kernel
theorem dX6_numberAt_14 : decode cX6_numberAt 14 = .ok (.goto 5, 3) := by decide +kernel
theorem dX6_numberAt_17 : decode cX6_numberAt 17 = .ok (.bipush (-15), 2) := by decide +kernel
theorem dX6_numberAt_19 : decode cX6_numberAt 19 = .ok (.ireturn, 1) := by decide +kernel
set_option maxRecDepth 20000 in
theorem ggX6_detailAt_X6_isKept : GoodIn wsX6_detailAt wsX6_isKept := goodIn_r _ [6, 7, 8, 9, 10] (by decide +kernel) (by decide +kernel)
set_option maxRecDepth 20000 in
theorem gX6_detailAt_X6_isKept : GoodIn wsX6_detailAt (wsV RX6 28 RX6 yX6_isKept wsX6_isKept) := goodIn_app (goodIn_of _ (by decide +kernel)) ggX6_detailAt_X6_isKept
theorem dX6_detailAt_0 : decode cX6_detailAt 0 = .ok (.aload_n 0, 1) := by decide +kernel
theorem dX6_detailAt_1 : decode cX6_detailAt 1 = .ok (.iload_n 1, 1) := by decide +kernel
theorem dX6_detailAt_2 : decode cX6_detailAt 2 = .ok (.invokevirtual 28, 3) := by decide +kernel
theorem dX6_detailAt_5 : decode cX6_detailAt 5 = .ok (.ifCond .eq 12, 3) := by decide +kernel
theorem dX6_detailAt_8 : decode cX6_detailAt 8 = .ok (.aload_n 0, 1) := by decide +kernel
theorem dX6_detailAt_9 : decode cX6_detailAt 9 = .ok (.getfield 15, 3) := by decide +kernel
theorem dX6_detailAt_12 : decode cX6_detailAt 12 = .ok (.iload_n 1, 1) := by decide +kernel
theorem dX6_detailAt_13 : decode cX6_detailAt 13 = .ok (.iaload, 1) := by decide +kernel
theorem dX6_detailAt_14 : decode cX6_detailAt 14 = .ok (.goto 5, 3) := by decide +kernel
theorem dX6_detailAt_17 : decode cX6_detailAt 17 = .ok (.bipush (-15), 2) := by decide +kernel
theorem dX6_detailAt_19 : decode cX6_detailAt 19 = .ok (.ireturn, 1) := by decide +kernel
theorem dX6_isKept_0 : decode cX6_isKept 0 = .ok (.iload_n 1, 1) := by decide +kernel
theorem dX6_isKept_1 : decode cX6_isKept 1 = .ok (.ifCond .lt 20, 3) := by decide +kernel
theorem dX6_isKept_4 : decode cX6_isKept 4 = .ok (.iload_n 1, 1) := by decide +kernel
theorem dX6_isKept_5 : decode cX6_isKept 5 = .ok (.aload_n 0, 1) := by decide +kernel
theorem dX6_isKept_6 : decode cX6_isKept 6 = .ok (.getfield 18, 3) := by decide +kernel
theorem dX6_isKept_9 : decode cX6_isKept 9 = .ok (.if_icmp .ge 12, 3) := by decide +kernel
theorem dX6_isKept_12 : decode cX6_isKept 12 = .ok (.iload_n 1, 1) := by decide +kernel
theorem dX6_isKept_13 : decode cX6_isKept 13 = .ok (.iconst 3, 1) := by decide +kernel
theorem dX6_isKept_14 : decode cX6_isKept 14 = .ok (.if_icmp .ge 7, 3) := by decide +kernel
theorem dX6_isKept_17 : decode cX6_isKept 17 = .ok (.iconst 1, 1) := by decide +kernel
theorem dX6_isKept_18 : decode cX6_isKept 18 = .ok (.goto 4, 3) := by decide +kernel
theorem dX6_isKept_21 : decode cX6_isKept 21 = .ok (.iconst 0, 1) := by decide +kernel
theorem dX6_isKept_22 : decode cX6_isKept 22 = .ok (.ireturn, 1) := by decide +kernel
set_option maxRecDepth 20000 in
theorem ggX7_byFinding_X5_switchesTo : GoodIn wsX7_byFinding wsX5_switchesTo := goodIn_r _ [4, 5, 6, 7, 8, 9, 10, 11, 12, 13, 14, 15, 16, 17, 18, 19, 20, 21, 3, 22, 23, 24, 25, 26, 27, 28, 29, 30, 31, 32, 33, 59, 60, 61, 62, 63, 64, 65, 66, 67, 68] (by decide +kernel) (by decide +kernel)
set_option maxRecDepth 20000 in
theorem gX7_byFinding_X5_switchesTo : GoodIn wsX7_byFinding (va_wsS RX7 9 yX5_switchesTo wsX5_switchesTo) := goodIn_app (goodIn_of _ (by decide +kernel)) ggX7_byFinding_X5_switchesTo
set_option maxRecDepth 20000 in
theorem ggX7_byFinding_J6_bitCount_0f7a4 : GoodIn wsX7_byFinding wsJ6_bitCount_0f7a4 := goodIn_r _ [37, 38, 39, 40] (by decide +kernel) (by decide +kernel)
set_option maxRecDepth 20000 in
theorem gX7_byFinding_J6_bitCount_0f7a4 : GoodIn wsX7_byFinding (va_wsS RX7 15 yJ6_bitCount_0f7a4 wsJ6_bitCount_0f7a4) := goodIn_app (goodIn_of _ (by decide +kernel)) ggX7_byFinding_J6_bitCount_0f7a4
set_option maxRecDepth 20000 in
theorem ggX7_byFinding_X7_spread : GoodIn wsX7_byFinding wsX7_spread := goodIn_r _ [44, 31, 32, 33] (by decide +kernel) (by decide +kernel)
set_option maxRecDepth 20000 in
theorem gX7_byFinding_X7_spread : GoodIn wsX7_byFinding (va_wsS RX7 21 yX7_spread wsX7_spread) := goodIn_app (goodIn_of _ (by decide +kernel)) ggX7_byFinding_X7_spread
set_option maxRecDepth 20000 in
theorem ggX7_byFinding_X7_isGlowingAtLast : GoodIn wsX7_byFinding wsX7_isGlowingAtLast := goodIn_r _ [47, 48, 49, 50, 8, 51, 10, 52, 12, 13, 14, 15, 16, 17, 18, 19, 31, 32, 33, 53, 6, 7, 9, 54, 27, 28, 29, 30, 55, 56, 57, 58, 59, 60, 61, 62, 63, 64, 65, 66, 67, 68] (by decide +kernel) (by decide +kernel)
set_option maxRecDepth 20000 in
theorem gX7_byFinding_X7_isGlowingAtLast : GoodIn wsX7_byFinding (va_wsS RX7 27 yX7_isGlowingAtLast wsX7_isGlowingAtLast) := goodIn_app (goodIn_of _ (by decide +kernel)) ggX7_byFinding_X7_isGlowingAtLast
theorem dX7_byFinding_0 : decode cX7_byFinding 0 = .ok (.aload_n 0, 1) := by decide +kernel
theorem dX7_byFinding_1 : decode cX7_byFinding 1 = .ok (.iload_n 1, 1) := by decide +kernel
theorem dX7_byFinding_2 : decode cX7_byFinding 2 = .ok (.invokestatic 9, 3) := by decide +kernel
theorem dX7_byFinding_5 : decode cX7_byFinding 5 = .ok (.istore_n 2, 1) := by decide +kernel
theorem dX7_byFinding_6 : decode cX7_byFinding 6 = .ok (.iconst 1, 1) := by decide +kernel
theorem dX7_byFinding_7 : decode cX7_byFinding 7 = .ok (.iload_n 2, 1) := by decide +kernel
theorem dX7_byFinding_8 : decode cX7_byFinding 8 = .ok (.invokestatic 15, 3) := by decide +kernel
theorem dX7_byFinding_11 : decode cX7_byFinding 11 = .ok (.ishl, 1) := by decide +kernel
theorem dX7_byFinding_12 : decode cX7_byFinding 12 = .ok (.istore_n 3, 1) := by decide +kernel
theorem dX7_byFinding_13 : decode cX7_byFinding 13 = .ok (.iconst 0, 1) := by decide +kernel
theorem dX7_byFinding_14 : decode cX7_byFinding 14 = .ok (.istore 4, 2) := by decide +kernel
theorem dX7_byFinding_16 : decode cX7_byFinding 16 = .ok (.iconst 0, 1) := by decide +kernel
theorem dX7_byFinding_17 : decode cX7_byFinding 17 = .ok (.istore 5, 2) := by decide +kernel
theorem dX7_byFinding_19 : decode cX7_byFinding 19 = .ok (.iload 5, 2) := by decide +kernel
theorem dX7_byFinding_21 : decode cX7_byFinding 21 = .ok (.iload_n 3, 1) := by decide +kernel
theorem dX7_byFinding_22 : decode cX7_byFinding 22 = .ok (.if_icmp .ge 32, 3) := by decide +kernel
theorem dX7_byFinding_25 : decode cX7_byFinding 25 = .ok (.aload_n 0, 1) := by decide +kernel
theorem dX7_byFinding_26 : decode cX7_byFinding 26 = .ok (.iload_n 1, 1) := by decide +kernel
theorem dX7_byFinding_27 : decode cX7_byFinding 27 = .ok (.iload 5, 2) := by decide +kernel
theorem dX7_byFinding_29 : decode cX7_byFinding 29 = .ok (.iload_n 2, 1) := by decide +kernel
theorem dX7_byFinding_30 : decode cX7_byFinding 30 = .ok (.invokestatic 21, 3) := by decide +kernel
theorem dX7_byFinding_33 : decode cX7_byFinding 33 = .ok (.invokestatic 27, 3) := by decide +kernel
theorem dX7_byFinding_36 : decode cX7_byFinding 36 = .ok (.ifCond .eq 12, 3) := by decide +kernel
theorem dX7_byFinding_39 : decode cX7_byFinding 39 = .ok (.iload 4, 2) := by decide +kernel
theorem dX7_byFinding_41 : decode cX7_byFinding 41 = .ok (.iconst 1, 1) := by decide +kernel
theorem dX7_byFinding_42 : decode cX7_byFinding 42 = .ok (.iload 5, 2) := by decide +kernel
theorem dX7_byFinding_44 : decode cX7_byFinding 44 = .ok (.ishl, 1) := by decide +kernel
theorem dX7_byFinding_45 : decode cX7_byFinding 45 = .ok (.ior, 1) := by decide +kernel
theorem dX7_byFinding_46 : decode cX7_byFinding 46 = .ok (.istore 4, 2) := by decide +kernel
theorem dX7_byFinding_48 : decode cX7_byFinding 48 = .ok (.iinc 5 1, 3) := by decide +kernel
theorem dX7_byFinding_51 : decode cX7_byFinding 51 = .ok (.goto (-32), 3) := by decide +kernel
theorem dX7_byFinding_54 : decode cX7_byFinding 54 = .ok (.iload 4, 2) := by decide +kernel
theorem dX7_byFinding_56 : decode cX7_byFinding 56 = .ok (.ireturn, 1) := by decide +kernel
set_option maxRecDepth 20000 in
theorem ggX7_isGlowingAtLast_X2_switches : GoodIn wsX7_isGlowingAtLast wsX2_switches := goodIn_r _ [5, 6, 7, 8, 9, 4, 10, 11, 12, 13, 14, 15, 32, 33, 34, 35, 36, 37, 38, 39, 40, 41] (by decide +kernel) (by decide +kernel)
set_option maxRecDepth 20000 in
theorem gX7_isGlowingAtLast_X2_switches : GoodIn wsX7_isGlowingAtLast (wsV RX7 31 RX2 yX2_switches wsX2_switches) := goodIn_app (goodIn_of _ (by decide +kernel)) ggX7_isGlowingAtLast_X2_switches
set_option maxRecDepth 20000 in
theorem ggX7_isGlowingAtLast_X9_isIn : GoodIn wsX7_isGlowingAtLast wsX9_isIn := goodIn_r _ [18] (by decide +kernel) (by decide +kernel)
set_option maxRecDepth 20000 in
theorem gX7_isGlowingAtLast_X9_isIn_n37 : GoodIn wsX7_isGlowingAtLast (wsX9_isIn) := ggX7_isGlowingAtLast_X9_isIn
set_option maxRecDepth 20000 in
theorem ggX7_isGlowingAtLast_X2_count : GoodIn wsX7_isGlowingAtLast wsX2_count := goodIn_r _ [22, 6, 32, 33, 34, 35, 36, 37, 38, 39, 40, 41] (by decide +kernel) (by decide +kernel)
set_option maxRecDepth 20000 in
theorem gX7_isGlowingAtLast_X2_count : GoodIn wsX7_isGlowingAtLast (wsV RX7 41 RX2 yX2_count wsX2_count) := goodIn_app (goodIn_of _ (by decide +kernel)) ggX7_isGlowingAtLast_X2_count
set_option maxRecDepth 20000 in
theorem ggX7_isGlowingAtLast_X2_sourcesOf : GoodIn wsX7_isGlowingAtLast wsX2_sourcesOf := goodIn_r _ [26, 27, 32, 33, 34, 35, 36, 37, 38, 39, 40, 41] (by decide +kernel) (by decide +kernel)
set_option maxRecDepth 20000 in
theorem gX7_isGlowingAtLast_X2_sourcesOf : GoodIn wsX7_isGlowingAtLast (wsV RX7 44 RX2 yX2_sourcesOf wsX2_sourcesOf) := goodIn_app (goodIn_of _ (by decide +kernel)) ggX7_isGlowingAtLast_X2_sourcesOf
set_option maxRecDepth 20000 in
theorem ggX7_isGlowingAtLast_X2_isFinding : GoodIn wsX7_isGlowingAtLast wsX2_isFinding := goodIn_r _ [31, 27, 11, 32, 33, 34, 35, 36, 37, 38, 39, 40, 41] (by decide +kernel) (by decide +kernel)
set_option maxRecDepth 20000 in
theorem gX7_isGlowingAtLast_X2_isFinding : GoodIn wsX7_isGlowingAtLast (wsV RX7 47 RX2 yX2_isFinding wsX2_isFinding) := goodIn_app (goodIn_of _ (by decide +kernel)) ggX7_isGlowingAtLast_X2_isFinding
theorem dX7_isGlowingAtLast_0 : decode cX7_isGlowingAtLast 0 = .ok (.iload_n 2, 1) := by decide +kernel
theorem dX7_isGlowingAtLast_1 : decode cX7_isGlowingAtLast 1 = .ok (.istore_n 3, 1) := by decide +kernel
theorem dX7_isGlowingAtLast_2 : decode cX7_isGlowingAtLast 2 = .ok (.aload_n 0, 1) := by decide +kernel
theorem dX7_isGlowingAtLast_3 : decode cX7_isGlowingAtLast 3 = .ok (.invokevirtual 31, 3) := by decide +kernel
theorem dX7_isGlowingAtLast_6 : decode cX7_isGlowingAtLast 6 = .ok (.istore 4, 2) := by decide +kernel
theorem dX7_isGlowingAtLast_8 : decode cX7_isGlowingAtLast 8 = .ok (.iconst 0, 1) := by decide +kernel
theorem dX7_isGlowingAtLast_9 : decode cX7_isGlowingAtLast 9 = .ok (.istore 5, 2) := by decide +kernel
theorem dX7_isGlowingAtLast_11 : decode cX7_isGlowingAtLast 11 = .ok (.iload 5, 2) := by decide +kernel
theorem dX7_isGlowingAtLast_13 : decode cX7_isGlowingAtLast 13 = .ok (.bipush 16, 2) := by decide +kernel
theorem dX7_isGlowingAtLast_15 : decode cX7_isGlowingAtLast 15 = .ok (.if_icmp .ge 102, 3) := by decide +kernel
theorem dX7_isGlowingAtLast_18 : decode cX7_isGlowingAtLast 18 = .ok (.iload 4, 2) := by decide +kernel
theorem dX7_isGlowingAtLast_20 : decode cX7_isGlowingAtLast 20 = .ok (.iload_n 1, 1) := by decide +kernel
theorem dX7_isGlowingAtLast_21 : decode cX7_isGlowingAtLast 21 = .ok (.invokestatic 37, 3) := by decide +kernel
theorem dX7_isGlowingAtLast_24 : decode cX7_isGlowingAtLast 24 = .ok (.ifCond .ne 93, 3) := by decide +kernel
theorem dX7_isGlowingAtLast_27 : decode cX7_isGlowingAtLast 27 = .ok (.iconst 0, 1) := by decide +kernel
theorem dX7_isGlowingAtLast_28 : decode cX7_isGlowingAtLast 28 = .ok (.istore 6, 2) := by decide +kernel
theorem dX7_isGlowingAtLast_30 : decode cX7_isGlowingAtLast 30 = .ok (.iload 6, 2) := by decide +kernel
theorem dX7_isGlowingAtLast_32 : decode cX7_isGlowingAtLast 32 = .ok (.aload_n 0, 1) := by decide +kernel
theorem dX7_isGlowingAtLast_33 : decode cX7_isGlowingAtLast 33 = .ok (.invokevirtual 41, 3) := by decide +kernel
theorem dX7_isGlowingAtLast_36 : decode cX7_isGlowingAtLast 36 = .ok (.if_icmp .ge 75, 3) := by decide +kernel
theorem dX7_isGlowingAtLast_39 : decode cX7_isGlowingAtLast 39 = .ok (.aload_n 0, 1) := by decide +kernel
theorem dX7_isGlowingAtLast_40 : decode cX7_isGlowingAtLast 40 = .ok (.iload 6, 2) := by decide +kernel
theorem dX7_isGlowingAtLast_42 : decode cX7_isGlowingAtLast 42 = .ok (.invokevirtual 44, 3) := by decide +kernel
theorem dX7_isGlowingAtLast_45 : decode cX7_isGlowingAtLast 45 = .ok (.iload 4, 2) := by decide +kernel
theorem dX7_isGlowingAtLast_47 : decode cX7_isGlowingAtLast 47 = .ok (.iconst (-1), 1) := by decide +kernel
theorem dX7_isGlowingAtLast_48 : decode cX7_isGlowingAtLast 48 = .ok (.ixor, 1) := by decide +kernel
theorem dX7_isGlowingAtLast_49 : decode cX7_isGlowingAtLast 49 = .ok (.iand, 1) := by decide +kernel
theorem dX7_isGlowingAtLast_50 : decode cX7_isGlowingAtLast 50 = .ok (.ifCond .ne 7, 3) := by decide +kernel
theorem dX7_isGlowingAtLast_53 : decode cX7_isGlowingAtLast 53 = .ok (.iconst 1, 1) := by decide +kernel
theorem dX7_isGlowingAtLast_54 : decode cX7_isGlowingAtLast 54 = .ok (.goto 4, 3) := by decide +kernel
theorem dX7_isGlowingAtLast_57 : decode cX7_isGlowingAtLast 57 = .ok (.iconst 0, 1) := by decide +kernel
theorem dX7_isGlowingAtLast_58 : decode cX7_isGlowingAtLast 58 = .ok (.istore 7, 2) := by decide +kernel
theorem dX7_isGlowingAtLast_60 : decode cX7_isGlowingAtLast 60 = .ok (.iload 7, 2) := by decide +kernel
theorem dX7_isGlowingAtLast_62 : decode cX7_isGlowingAtLast 62 = .ok (.ifCond .eq 43, 3) := by decide +kernel
theorem dX7_isGlowingAtLast_65 : decode cX7_isGlowingAtLast 65 = .ok (.iload 4, 2) := by decide +kernel
theorem dX7_isGlowingAtLast_67 : decode cX7_isGlowingAtLast 67 = .ok (.iload 6, 2) := by decide +kernel
theorem dX7_isGlowingAtLast_69 : decode cX7_isGlowingAtLast 69 = .ok (.invokestatic 37, 3) := by decide +kernel
theorem dX7_isGlowingAtLast_72 : decode cX7_isGlowingAtLast 72 = .ok (.ifCond .ne 33, 3) := by decide +kernel
theorem dX7_isGlowingAtLast_75 : decode cX7_isGlowingAtLast 75 = .ok (.iload 4, 2) := by decide +kernel
theorem dX7_isGlowingAtLast_77 : decode cX7_isGlowingAtLast 77 = .ok (.iconst 1, 1) := by decide +kernel
theorem dX7_isGlowingAtLast_78 : decode cX7_isGlowingAtLast 78 = .ok (.iload 6, 2) := by decide +kernel
theorem dX7_isGlowingAtLast_80 : decode cX7_isGlowingAtLast 80 = .ok (.ishl, 1) := by decide +kernel
theorem dX7_isGlowingAtLast_81 : decode cX7_isGlowingAtLast 81 = .ok (.ior, 1) := by decide +kernel
theorem dX7_isGlowingAtLast_82 : decode cX7_isGlowingAtLast 82 = .ok (.istore 4, 2) := by decide +kernel
theorem dX7_isGlowingAtLast_84 : decode cX7_isGlowingAtLast 84 = .ok (.iload_n 3, 1) := by decide +kernel
theorem dX7_isGlowingAtLast_85 : decode cX7_isGlowingAtLast 85 = .ok (.aload_n 0, 1) := by decide +kernel
theorem dX7_isGlowingAtLast_86 : decode cX7_isGlowingAtLast 86 = .ok (.iload 6, 2) := by decide +kernel
theorem dX7_isGlowingAtLast_88 : decode cX7_isGlowingAtLast 88 = .ok (.iload_n 3, 1) := by decide +kernel
theorem dX7_isGlowingAtLast_89 : decode cX7_isGlowingAtLast 89 = .ok (.invokevirtual 47, 3) := by decide +kernel
theorem dX7_isGlowingAtLast_92 : decode cX7_isGlowingAtLast 92 = .ok (.ifCond .eq 10, 3) := by decide +kernel
theorem dX7_isGlowingAtLast_95 : decode cX7_isGlowingAtLast 95 = .ok (.iconst 1, 1) := by decide +kernel
theorem dX7_isGlowingAtLast_96 : decode cX7_isGlowingAtLast 96 = .ok (.iload 6, 2) := by decide +kernel
theorem dX7_isGlowingAtLast_98 : decode cX7_isGlowingAtLast 98 = .ok (.ishl, 1) := by decide +kernel
theorem dX7_isGlowingAtLast_99 : decode cX7_isGlowingAtLast 99 = .ok (.goto 4, 3) := by decide +kernel
theorem dX7_isGlowingAtLast_102 : decode cX7_isGlowingAtLast 102 = .ok (.iconst 0, 1) := by decide +kernel
theorem dX7_isGlowingAtLast_103 : decode cX7_isGlowingAtLast 103 = .ok (.ior, 1) := by decide +kernel
theorem dX7_isGlowingAtLast_104 : decode cX7_isGlowingAtLast 104 = .ok (.istore_n 3, 1) := by decide +kernel
theorem dX7_isGlowingAtLast_105 : decode cX7_isGlowingAtLast 105 = .ok (.iinc 6 1, 3) := by decide +kernel
theorem dX7_isGlowingAtLast_108 : decode cX7_isGlowingAtLast 108 = .ok (.goto (-78), 3) := by decide +kernel
theorem dX7_isGlowingAtLast_111 : decode cX7_isGlowingAtLast 111 = .ok (.iinc 5 1, 3) := by decide +kernel
theorem dX7_isGlowingAtLast_114 : decode cX7_isGlowingAtLast 114 = .ok (.goto (-103), 3) := by decide +kernel
theorem dX7_isGlowingAtLast_117 : decode cX7_isGlowingAtLast 117 = .ok (.iload_n 3, 1) := by decide +kernel
theorem dX7_isGlowingAtLast_118 : decode cX7_isGlowingAtLast 118 = .ok (.iload_n 1, 1) := by decide +kernel
theorem dX7_isGlowingAtLast_119 : decode cX7_isGlowingAtLast 119 = .ok (.invokestatic 37, 3) := by decide +kernel
theorem dX7_isGlowingAtLast_122 : decode cX7_isGlowingAtLast 122 = .ok (.ireturn, 1) := by decide +kernel
set_option maxRecDepth 20000 in
theorem ggX7_byTicks_X5_switchesTo : GoodIn wsX7_byTicks wsX5_switchesTo := goodIn_r _ [5, 6, 7, 8, 9, 10, 11, 12, 13, 14, 15, 16, 17, 18, 19, 20, 21, 22, 4, 23, 24, 25, 26, 27, 28, 29, 30, 31, 32, 33, 34, 68, 69, 70, 71, 72, 73, 74, 75, 76, 77] (by decide +kernel) (by decide +kernel)
set_option maxRecDepth 20000 in
theorem gX7_byTicks_X5_switchesTo : GoodIn wsX7_byTicks (va_wsS RX7 9 yX5_switchesTo wsX5_switchesTo) := goodIn_app (goodIn_of _ (by decide +kernel)) ggX7_byTicks_X5_switchesTo
set_option maxRecDepth 20000 in
theorem ggX7_byTicks_J6_bitCount_0f7a4 : GoodIn wsX7_byTicks wsJ6_bitCount_0f7a4 := goodIn_r _ [38, 39, 40, 41] (by decide +kernel) (by decide +kernel)
set_option maxRecDepth 20000 in
theorem gX7_byTicks_J6_bitCount_0f7a4 : GoodIn wsX7_byTicks (va_wsS RX7 15 yJ6_bitCount_0f7a4 wsJ6_bitCount_0f7a4) := goodIn_app (goodIn_of _ (by decide +kernel)) ggX7_byTicks_J6_bitCount_0f7a4
set_option maxRecDepth 20000 in
theorem ggX7_byTicks_X2_state : GoodIn wsX7_byTicks wsX2_state := goodIn_r _ [45, 46, 68, 69, 70, 71, 72, 73, 74, 75, 76, 77] (by decide +kernel) (by decide +kernel)
set_option maxRecDepth 20000 in
theorem gX7_byTicks_X2_state : GoodIn wsX7_byTicks (wsV RX7 50 RX2 yX2_state wsX2_state) := goodIn_app (goodIn_of _ (by decide +kernel)) ggX7_byTicks_X2_state
set_option maxRecDepth 20000 in
theorem ggX7_byTicks_X7_spread : GoodIn wsX7_byTicks wsX7_spread := goodIn_r _ [50, 32, 33, 34] (by decide +kernel) (by decide +kernel)
set_option maxRecDepth 20000 in
theorem gX7_byTicks_X7_spread : GoodIn wsX7_byTicks (va_wsS RX7 21 yX7_spread wsX7_spread) := goodIn_app (goodIn_of _ (by decide +kernel)) ggX7_byTicks_X7_spread
set_option maxRecDepth 20000 in
theorem ggX7_byTicks_X2_behindTick : GoodIn wsX7_byTicks wsX2_behindTick := goodIn_r _ [54, 11, 16, 55, 56, 57, 9, 58, 59, 60, 61, 62, 63, 64, 65, 66, 67, 31, 68, 69, 70, 71, 72, 73, 74, 75, 76, 77] (by decide +kernel) (by decide +kernel)
set_option maxRecDepth 20000 in
theorem gX7_byTicks_X2_behindTick : GoodIn wsX7_byTicks (wsV RX7 56 RX2 yX2_behindTick wsX2_behindTick) := goodIn_app (goodIn_of _ (by decide +kernel)) ggX7_byTicks_X2_behindTick
theorem dX7_byTicks_0 : decode cX7_byTicks 0 = .ok (.aload_n 0, 1) := by decide +kernel
theorem dX7_byTicks_1 : decode cX7_byTicks 1 = .ok (.iload_n 1, 1) := by decide +kernel
theorem dX7_byTicks_2 : decode cX7_byTicks 2 = .ok (.invokestatic 9, 3) := by decide +kernel
theorem dX7_byTicks_5 : decode cX7_byTicks 5 = .ok (.istore_n 3, 1) := by decide +kernel
theorem dX7_byTicks_6 : decode cX7_byTicks 6 = .ok (.iconst 1, 1) := by decide +kernel
theorem dX7_byTicks_7 : decode cX7_byTicks 7 = .ok (.iload_n 3, 1) := by decide +kernel
theorem dX7_byTicks_8 : decode cX7_byTicks 8 = .ok (.invokestatic 15, 3) := by decide +kernel
theorem dX7_byTicks_11 : decode cX7_byTicks 11 = .ok (.ishl, 1) := by decide +kernel
theorem dX7_byTicks_12 : decode cX7_byTicks 12 = .ok (.istore 4, 2) := by decide +kernel
theorem dX7_byTicks_14 : decode cX7_byTicks 14 = .ok (.aload_n 0, 1) := by decide +kernel
theorem dX7_byTicks_15 : decode cX7_byTicks 15 = .ok (.invokevirtual 50, 3) := by decide +kernel
theorem dX7_byTicks_18 : decode cX7_byTicks 18 = .ok (.iload_n 3, 1) := by decide +kernel
theorem dX7_byTicks_19 : decode cX7_byTicks 19 = .ok (.i2l, 1) := by decide +kernel
theorem dX7_byTicks_20 : decode cX7_byTicks 20 = .ok (.ldc2_w 54, 3) := by decide +kernel
theorem dX7_byTicks_23 : decode cX7_byTicks 23 = .ok (.lxor, 1) := by decide +kernel
theorem dX7_byTicks_24 : decode cX7_byTicks 24 = .ok (.land, 1) := by decide +kernel
theorem dX7_byTicks_25 : decode cX7_byTicks 25 = .ok (.lstore 5, 2) := by decide +kernel
theorem dX7_byTicks_27 : decode cX7_byTicks 27 = .ok (.iconst 0, 1) := by decide +kernel
theorem dX7_byTicks_28 : decode cX7_byTicks 28 = .ok (.istore 7, 2) := by decide +kernel
theorem dX7_byTicks_30 : decode cX7_byTicks 30 = .ok (.iconst 0, 1) := by decide +kernel
theorem dX7_byTicks_31 : decode cX7_byTicks 31 = .ok (.istore 8, 2) := by decide +kernel
theorem dX7_byTicks_33 : decode cX7_byTicks 33 = .ok (.iload 8, 2) := by decide +kernel
theorem dX7_byTicks_35 : decode cX7_byTicks 35 = .ok (.iload 4, 2) := by decide +kernel
theorem dX7_byTicks_37 : decode cX7_byTicks 37 = .ok (.if_icmp .ge 59, 3) := by decide +kernel
theorem dX7_byTicks_40 : decode cX7_byTicks 40 = .ok (.lload 5, 2) := by decide +kernel
theorem dX7_byTicks_42 : decode cX7_byTicks 42 = .ok (.iload 8, 2) := by decide +kernel
theorem dX7_byTicks_44 : decode cX7_byTicks 44 = .ok (.iload_n 3, 1) := by decide +kernel
theorem dX7_byTicks_45 : decode cX7_byTicks 45 = .ok (.invokestatic 21, 3) := by decide +kernel
theorem dX7_byTicks_48 : decode cX7_byTicks 48 = .ok (.i2l, 1) := by decide +kernel
theorem dX7_byTicks_49 : decode cX7_byTicks 49 = .ok (.lor, 1) := by decide +kernel
theorem dX7_byTicks_50 : decode cX7_byTicks 50 = .ok (.lstore 9, 2) := by decide +kernel
theorem dX7_byTicks_52 : decode cX7_byTicks 52 = .ok (.iconst 0, 1) := by decide +kernel
theorem dX7_byTicks_53 : decode cX7_byTicks 53 = .ok (.istore 11, 2) := by decide +kernel
theorem dX7_byTicks_55 : decode cX7_byTicks 55 = .ok (.iload 11, 2) := by decide +kernel
theorem dX7_byTicks_57 : decode cX7_byTicks 57 = .ok (.iload_n 2, 1) := by decide +kernel
theorem dX7_byTicks_58 : decode cX7_byTicks 58 = .ok (.if_icmp .ge 17, 3) := by decide +kernel
theorem dX7_byTicks_61 : decode cX7_byTicks 61 = .ok (.aload_n 0, 1) := by decide +kernel
theorem dX7_byTicks_62 : decode cX7_byTicks 62 = .ok (.lload 9, 2) := by decide +kernel
theorem dX7_byTicks_64 : decode cX7_byTicks 64 = .ok (.invokevirtual 56, 3) := by decide +kernel
theorem dX7_byTicks_67 : decode cX7_byTicks 67 = .ok (.lstore 9, 2) := by decide +kernel
theorem dX7_byTicks_69 : decode cX7_byTicks 69 = .ok (.iinc 11 1, 3) := by decide +kernel
theorem dX7_byTicks_72 : decode cX7_byTicks 72 = .ok (.goto (-17), 3) := by decide +kernel
theorem dX7_byTicks_75 : decode cX7_byTicks 75 = .ok (.iload 7, 2) := by decide +kernel
theorem dX7_byTicks_77 : decode cX7_byTicks 77 = .ok (.lload 9, 2) := by decide +kernel
theorem dX7_byTicks_79 : decode cX7_byTicks 79 = .ok (.iload_n 1, 1) := by decide +kernel
theorem dX7_byTicks_80 : decode cX7_byTicks 80 = .ok (.lshr, 1) := by decide +kernel
theorem dX7_byTicks_81 : decode cX7_byTicks 81 = .ok (.lconst 1, 1) := by decide +kernel
theorem dX7_byTicks_82 : decode cX7_byTicks 82 = .ok (.land, 1) := by decide +kernel
theorem dX7_byTicks_83 : decode cX7_byTicks 83 = .ok (.l2i, 1) := by decide +kernel
theorem dX7_byTicks_84 : decode cX7_byTicks 84 = .ok (.iload 8, 2) := by decide +kernel
theorem dX7_byTicks_86 : decode cX7_byTicks 86 = .ok (.ishl, 1) := by decide +kernel
theorem dX7_byTicks_87 : decode cX7_byTicks 87 = .ok (.ior, 1) := by decide +kernel
theorem dX7_byTicks_88 : decode cX7_byTicks 88 = .ok (.istore 7, 2) := by decide +kernel
theorem dX7_byTicks_90 : decode cX7_byTicks 90 = .ok (.iinc 8 1, 3) := by decide +kernel
theorem dX7_byTicks_93 : decode cX7_byTicks 93 = .ok (.goto (-60), 3) := by decide +kernel
theorem dX7_byTicks_96 : decode cX7_byTicks 96 = .ok (.iload 7, 2) := by decide +kernel
theorem dX7_byTicks_98 : decode cX7_byTicks 98 = .ok (.ireturn, 1) := by decide +kernel
set_option maxRecDepth 20000 in
theorem ggX7_spread_X9_isIn : GoodIn wsX7_spread wsX9_isIn := goodIn_r _ [3] (by decide +kernel) (by decide +kernel)
set_option maxRecDepth 20000 in
theorem gX7_spread_X9_isIn_n37 : GoodIn wsX7_spread (wsX9_isIn) := ggX7_spread_X9_isIn
theorem dX7_spread_0 : decode cX7_spread 0 = .ok (.iconst 0, 1) := by decide +kernel
theorem dX7_spread_1 : decode cX7_spread 1 = .ok (.istore_n 2, 1) := by decide +kernel
theorem dX7_spread_2 : decode cX7_spread 2 = .ok (.iconst 0, 1) := by decide +kernel
theorem dX7_spread_3 : decode cX7_spread 3 = .ok (.istore_n 3, 1) := by decide +kernel
theorem dX7_spread_4 : decode cX7_spread 4 = .ok (.iconst 0, 1) := by decide +kernel
theorem dX7_spread_5 : decode cX7_spread 5 = .ok (.istore 4, 2) := by decide +kernel
theorem dX7_spread_7 : decode cX7_spread 7 = .ok (.iload 4, 2) := by decide +kernel
theorem dX7_spread_9 : decode cX7_spread 9 = .ok (.bipush 16, 2) := by decide +kernel
theorem dX7_spread_11 : decode cX7_spread 11 = .ok (.if_icmp .ge 32, 3) := by decide +kernel
theorem dX7_spread_14 : decode cX7_spread 14 = .ok (.iload_n 1, 1) := by decide +kernel
theorem dX7_spread_15 : decode cX7_spread 15 = .ok (.iload 4, 2) := by decide +kernel
theorem dX7_spread_17 : decode cX7_spread 17 = .ok (.invokestatic 37, 3) := by decide +kernel
theorem dX7_spread_20 : decode cX7_spread 20 = .ok (.ifCond .eq 17, 3) := by decide +kernel
theorem dX7_spread_23 : decode cX7_spread 23 = .ok (.iload_n 2, 1) := by decide +kernel
theorem dX7_spread_24 : decode cX7_spread 24 = .ok (.iload_n 0, 1) := by decide +kernel
theorem dX7_spread_25 : decode cX7_spread 25 = .ok (.iload_n 3, 1) := by decide +kernel
theorem dX7_spread_26 : decode cX7_spread 26 = .ok (.ishr, 1) := by decide +kernel
theorem dX7_spread_27 : decode cX7_spread 27 = .ok (.iconst 1, 1) := by decide +kernel
theorem dX7_spread_28 : decode cX7_spread 28 = .ok (.iand, 1) := by decide +kernel
theorem dX7_spread_29 : decode cX7_spread 29 = .ok (.iload 4, 2) := by decide +kernel
theorem dX7_spread_31 : decode cX7_spread 31 = .ok (.ishl, 1) := by decide +kernel
theorem dX7_spread_32 : decode cX7_spread 32 = .ok (.ior, 1) := by decide +kernel
theorem dX7_spread_33 : decode cX7_spread 33 = .ok (.istore_n 2, 1) := by decide +kernel
theorem dX7_spread_34 : decode cX7_spread 34 = .ok (.iinc 3 1, 3) := by decide +kernel
theorem dX7_spread_37 : decode cX7_spread 37 = .ok (.iinc 4 1, 3) := by decide +kernel
theorem dX7_spread_40 : decode cX7_spread 40 = .ok (.goto (-33), 3) := by decide +kernel
theorem dX7_spread_43 : decode cX7_spread 43 = .ok (.iload_n 2, 1) := by decide +kernel
theorem dX7_spread_44 : decode cX7_spread 44 = .ok (.ireturn, 1) := by decide +kernel
theorem dX8_init_0 : decode cX8_init 0 = .ok (.aload_n 0, 1) := by decide +kernel
theorem dX8_init_1 : decode cX8_init 1 = .ok (.invokespecial 3, 3) := by decide +kernel
theorem dX8_init_4 : decode cX8_init 4 = .ok (.aload_n 0, 1) := by decide +kernel
theorem dX8_init_5 : decode cX8_init 5 = .ok (.bipush 60, 2) := by decide +kernel
theorem dX8_init_7 : decode cX8_init 7 = .ok (.newarray .char, 2) := by decide +kernel
theorem dX8_init_9 : decode cX8_init 9 = .ok (.putfield 9, 3) := by decide +kernel
theorem dX8_init_12 : decode cX8_init 12 = .ok (.return_, 1) := by decide +kernel
theorem dX8_length_0 : decode cX8_length 0 = .ok (.aload_n 0, 1) := by decide +kernel
theorem dX8_length_1 : decode cX8_length 1 = .ok (.getfield 15, 3) := by decide +kernel
theorem dX8_length_4 : decode cX8_length 4 = .ok (.ireturn, 1) := by decide +kernel
theorem dX8_position_0 : decode cX8_position 0 = .ok (.aload_n 0, 1) := by decide +kernel
theorem dX8_position_1 : decode cX8_position 1 = .ok (.getfield 19, 3) := by decide +kernel
theorem dX8_position_4 : decode cX8_position 4 = .ok (.ireturn, 1) := by decide +kernel
theorem dX8_word_0 : decode cX8_word 0 = .ok (.aload_n 0, 1) := by decide +kernel
theorem dX8_word_1 : decode cX8_word 1 = .ok (.getfield 22, 3) := by decide +kernel
theorem dX8_word_4 : decode cX8_word 4 = .ok (.ireturn, 1) := by decide +kernel
theorem dX8_first_0 : decode cX8_first 0 = .ok (.aload_n 0, 1) := by decide +kernel
theorem dX8_first_1 : decode cX8_first 1 = .ok (.getfield 25, 3) := by decide +kernel
theorem dX8_first_4 : decode cX8_first 4 = .ok (.ireturn, 1) := by decide +kernel
theorem dX8_second_0 : decode cX8_second 0 = .ok (.aload_n 0, 1) := by decide +kernel
theorem dX8_second_1 : decode cX8_second 1 = .ok (.getfield 28, 3) := by decide +kernel
theorem dX8_second_4 : decode cX8_second 4 = .ok (.ireturn, 1) := by decide +kernel
theorem dX8_third_0 : decode cX8_third 0 = .ok (.aload_n 0, 1) := by decide +kernel
theorem dX8_third_1 : decode cX8_third 1 = .ok (.getfield 31, 3) := by decide +kernel
theorem dX8_third_4 : decode cX8_third 4 = .ok (.ireturn, 1) := by decide +kernel
theorem dX8_add_0 : decode cX8_add 0 = .ok (.iload_n 1, 1) := by decide +kernel
theorem dX8_add_1 : decode cX8_add 1 = .ok (.bipush 32, 2) := by decide +kernel
theorem dX8_add_3 : decode cX8_add 3 = .ok (.if_icmp .lt 9, 3) := by decide +kernel
theorem dX8_add_6 : decode cX8_add 6 = .ok (.iload_n 1, 1) := by decide +kernel
theorem dX8_add_7 : decode cX8_add 7 = .ok (.bipush 126, 2) := by decide +kernel
theorem dX8_add_9 : decode cX8_add 9 = .ok (.if_icmp .le 6, 3) := by decide +kernel
theorem dX8_add_12 : decode cX8_add 12 = .ok (.bipush (-12), 2) := by decide +kernel
theorem dX8_add_14 : decode cX8_add 14 = .ok (.ireturn, 1) := by decide +kernel
theorem dX8_add_15 : decode cX8_add 15 = .ok (.aload_n 0, 1) := by decide +kernel
theorem dX8_add_16 : decode cX8_add 16 = .ok (.getfield 15, 3) := by decide +kernel
theorem dX8_add_19 : decode cX8_add 19 = .ok (.ifCond .lt 12, 3) := by decide +kernel
theorem dX8_add_22 : decode cX8_add 22 = .ok (.aload_n 0, 1) := by decide +kernel
theorem dX8_add_23 : decode cX8_add 23 = .ok (.getfield 15, 3) := by decide +kernel
theorem dX8_add_26 : decode cX8_add 26 = .ok (.bipush 60, 2) := by decide +kernel
theorem dX8_add_28 : decode cX8_add 28 = .ok (.if_icmp .lt 6, 3) := by decide +kernel
theorem dX8_add_31 : decode cX8_add 31 = .ok (.bipush (-13), 2) := by decide +kernel
theorem dX8_add_33 : decode cX8_add 33 = .ok (.ireturn, 1) := by decide +kernel
theorem dX8_add_34 : decode cX8_add 34 = .ok (.aload_n 0, 1) := by decide +kernel
theorem dX8_add_35 : decode cX8_add 35 = .ok (.getfield 9, 3) := by decide +kernel
theorem dX8_add_38 : decode cX8_add 38 = .ok (.aload_n 0, 1) := by decide +kernel
theorem dX8_add_39 : decode cX8_add 39 = .ok (.getfield 15, 3) := by decide +kernel
theorem dX8_add_42 : decode cX8_add 42 = .ok (.iload_n 1, 1) := by decide +kernel
theorem dX8_add_43 : decode cX8_add 43 = .ok (.i2c, 1) := by decide +kernel
theorem dX8_add_44 : decode cX8_add 44 = .ok (.castore, 1) := by decide +kernel
theorem dX8_add_45 : decode cX8_add 45 = .ok (.aload_n 0, 1) := by decide +kernel
theorem dX8_add_46 : decode cX8_add 46 = .ok (.dup, 1) := by decide +kernel
theorem dX8_add_47 : decode cX8_add 47 = .ok (.getfield 15, 3) := by decide +kernel
theorem dX8_add_50 : decode cX8_add 50 = .ok (.iconst 1, 1) := by decide +kernel
theorem dX8_add_51 : decode cX8_add 51 = .ok (.iadd, 1) := by decide +kernel
theorem dX8_add_52 : decode cX8_add 52 = .ok (.putfield 15, 3) := by decide +kernel
theorem dX8_add_55 : decode cX8_add 55 = .ok (.aload_n 0, 1) := by decide +kernel
theorem dX8_add_56 : decode cX8_add 56 = .ok (.getfield 15, 3) := by decide +kernel
theorem dX8_add_59 : decode cX8_add 59 = .ok (.ireturn, 1) := by decide +kernel
theorem dX8_empty_0 : decode cX8_empty 0 = .ok (.aload_n 0, 1) := by decide +kernel
theorem dX8_empty_1 : decode cX8_empty 1 = .ok (.iconst 0, 1) := by decide +kernel
theorem dX8_empty_2 : decode cX8_empty 2 = .ok (.putfield 15, 3) := by decide +kernel
theorem dX8_empty_5 : decode cX8_empty 5 = .ok (.return_, 1) := by decide +kernel
theorem dX8_toStart_0 : decode cX8_toStart 0 = .ok (.aload_n 0, 1) := by decide +kernel
theorem dX8_toStart_1 : decode cX8_toStart 1 = .ok (.iconst 0, 1) := by decide +kernel
theorem dX8_toStart_2 : decode cX8_toStart 2 = .ok (.putfield 19, 3) := by decide +kernel
theorem dX8_toStart_5 : decode cX8_toStart 5 = .ok (.return_, 1) := by decide +kernel
set_option maxRecDepth 20000 in
theorem ggX8_isRight_X8_toStart : GoodIn wsX8_isRight wsX8_toStart := goodIn_r _ [7, 1, 103, 104, 105, 106, 107, 108, 109, 110] (by decide +kernel) (by decide +kernel)
set_option maxRecDepth 20000 in
theorem gX8_isRight_X8_toStart : GoodIn wsX8_isRight (wsV RX8 34 RX8 yX8_toStart wsX8_toStart) := goodIn_app (goodIn_of _ (by decide +kernel)) ggX8_isRight_X8_toStart
set_option maxRecDepth 20000 in
theorem ggX8_isRight_X8_readOrder : GoodIn wsX8_isRight wsX8_readOrder := goodIn_r _ [11, 12, 13, 14, 15, 6, 16, 1, 2, 17, 18, 19, 20, 21, 22, 23, 24, 25, 26, 27, 28, 29, 30, 31, 32, 33, 34, 35, 36, 37, 38, 39, 40, 41, 42, 43, 44, 45, 46, 47, 48, 49, 50, 51, 52, 53, 54, 55, 56, 57, 58, 59, 60, 61, 62, 63, 64, 65, 66, 67, 68, 69, 70, 71, 72, 73, 74, 75, 76, 77, 78, 79, 80, 81, 82, 83, 84, 85, 86, 87, 88, 89, 90, 91, 92, 93, 94, 95, 96, 97, 98, 99, 100, 101, 102, 103, 104, 105, 106, 107, 108, 109, 110, 111, 112, 113, 114] (by decide +kernel) (by decide +kernel)
set_option maxRecDepth 20000 in
theorem gX8_isRight_X8_readOrder : GoodIn wsX8_isRight (wsV RX8 37 RX8 yX8_readOrder wsX8_readOrder) := goodIn_app (goodIn_of _ (by decide +kernel)) ggX8_isRight_X8_readOrder
set_option maxRecDepth 20000 in
theorem ggX8_isRight_X8_isRead : GoodIn wsX8_isRight wsX8_isRead := goodIn_r _ [16, 1, 2, 17, 103, 104, 105, 106, 107, 108, 109, 110] (by decide +kernel) (by decide +kernel)
set_option maxRecDepth 20000 in
theorem gX8_isRight_X8_isRead : GoodIn wsX8_isRight (wsV RX8 41 RX8 yX8_isRead wsX8_isRead) := goodIn_app (goodIn_of _ (by decide +kernel)) ggX8_isRight_X8_isRead
theorem dX8_isRight_0 : decode cX8_isRight 0 = .ok (.aload_n 0, 1) := by decide +kernel
theorem dX8_isRight_1 : decode cX8_isRight 1 = .ok (.invokevirtual 34, 3) := by decide +kernel
theorem dX8_isRight_4 : decode cX8_isRight 4 = .ok (.iconst 0, 1) := by decide +kernel
theorem dX8_isRight_5 : decode cX8_isRight 5 = .ok (.istore_n 1, 1) := by decide +kernel
theorem dX8_isRight_6 : decode cX8_isRight 6 = .ok (.iload_n 1, 1) := by decide +kernel
theorem dX8_isRight_7 : decode cX8_isRight 7 = .ok (.bipush 60, 2) := by decide +kernel
theorem dX8_isRight_9 : decode cX8_isRight 9 = .ok (.if_icmp .ge 42, 3) := by decide +kernel
theorem dX8_isRight_12 : decode cX8_isRight 12 = .ok (.aload_n 0, 1) := by decide +kernel
theorem dX8_isRight_13 : decode cX8_isRight 13 = .ok (.invokevirtual 37, 3) := by decide +kernel
theorem dX8_isRight_16 : decode cX8_isRight 16 = .ok (.ifCond .ne 5, 3) := by decide +kernel
theorem dX8_isRight_19 : decode cX8_isRight 19 = .ok (.iconst 0, 1) := by decide +kernel
theorem dX8_isRight_20 : decode cX8_isRight 20 = .ok (.ireturn, 1) := by decide +kernel
theorem dX8_isRight_21 : decode cX8_isRight 21 = .ok (.aload_n 0, 1) := by decide +kernel
theorem dX8_isRight_22 : decode cX8_isRight 22 = .ok (.getfield 19, 3) := by decide +kernel
theorem dX8_isRight_25 : decode cX8_isRight 25 = .ok (.aload_n 0, 1) := by decide +kernel
theorem dX8_isRight_26 : decode cX8_isRight 26 = .ok (.getfield 15, 3) := by decide +kernel
theorem dX8_isRight_29 : decode cX8_isRight 29 = .ok (.if_icmp .ne 5, 3) := by decide +kernel
theorem dX8_isRight_32 : decode cX8_isRight 32 = .ok (.iconst 1, 1) := by decide +kernel
theorem dX8_isRight_33 : decode cX8_isRight 33 = .ok (.ireturn, 1) := by decide +kernel
theorem dX8_isRight_34 : decode cX8_isRight 34 = .ok (.aload_n 0, 1) := by decide +kernel
theorem dX8_isRight_35 : decode cX8_isRight 35 = .ok (.bipush 59, 2) := by decide +kernel
theorem dX8_isRight_37 : decode cX8_isRight 37 = .ok (.invokevirtual 41, 3) := by decide +kernel
theorem dX8_isRight_40 : decode cX8_isRight 40 = .ok (.ifCond .ne 5, 3) := by decide +kernel
theorem dX8_isRight_43 : decode cX8_isRight 43 = .ok (.iconst 0, 1) := by decide +kernel
theorem dX8_isRight_44 : decode cX8_isRight 44 = .ok (.ireturn, 1) := by decide +kernel
theorem dX8_isRight_45 : decode cX8_isRight 45 = .ok (.iinc 1 1, 3) := by decide +kernel
theorem dX8_isRight_48 : decode cX8_isRight 48 = .ok (.goto (-42), 3) := by decide +kernel
theorem dX8_isRight_51 : decode cX8_isRight 51 = .ok (.iconst 0, 1) := by decide +kernel
theorem dX8_isRight_52 : decode cX8_isRight 52 = .ok (.ireturn, 1) := by decide +kernel
set_option maxRecDepth 20000 in
theorem ggX8_readNext_X8_isRead : GoodIn wsX8_readNext wsX8_isRead := goodIn_r _ [6, 1, 7, 8, 99, 100, 101, 102, 103, 104, 105, 106] (by decide +kernel) (by decide +kernel)
set_option maxRecDepth 20000 in
theorem gX8_readNext_X8_isRead : GoodIn wsX8_readNext (wsV RX8 41 RX8 yX8_isRead wsX8_isRead) := goodIn_app (goodIn_of _ (by decide +kernel)) ggX8_readNext_X8_isRead
set_option maxRecDepth 20000 in
theorem ggX8_readNext_X8_readOrder : GoodIn wsX8_readNext wsX8_readOrder := goodIn_r _ [12, 13, 2, 3, 4, 5, 6, 1, 7, 8, 14, 15, 16, 17, 18, 19, 20, 21, 22, 23, 24, 25, 26, 27, 28, 29, 30, 31, 32, 33, 34, 35, 36, 37, 38, 39, 40, 41, 42, 43, 44, 45, 46, 47, 48, 49, 50, 51, 52, 53, 54, 55, 56, 57, 58, 59, 60, 61, 62, 63, 64, 65, 66, 67, 68, 69, 70, 71, 72, 73, 74, 75, 76, 77, 78, 79, 80, 81, 82, 83, 84, 85, 86, 87, 88, 89, 90, 91, 92, 93, 94, 95, 96, 97, 98, 99, 100, 101, 102, 103, 104, 105, 106, 107, 108, 109, 110] (by decide +kernel) (by decide +kernel)
set_option maxRecDepth 20000 in
theorem gX8_readNext_X8_readOrder : GoodIn wsX8_readNext (wsV RX8 37 RX8 yX8_readOrder wsX8_readOrder) := goodIn_app (goodIn_of _ (by decide +kernel)) ggX8_readNext_X8_readOrder
theorem dX8_readNext_0 : decode cX8_readNext 0 = .ok (.aload_n 0, 1) := by decide +kernel
theorem dX8_readNext_1 : decode cX8_readNext 1 = .ok (.getfield 19, 3) := by decide +kernel
theorem dX8_readNext_4 : decode cX8_readNext 4 = .ok (.ifCond .le 14, 3) := by decide +kernel
theorem dX8_readNext_7 : decode cX8_readNext 7 = .ok (.aload_n 0, 1) := by decide +kernel
theorem dX8_readNext_8 : decode cX8_readNext 8 = .ok (.bipush 59, 2) := by decide +kernel
theorem dX8_readNext_10 : decode cX8_readNext 10 = .ok (.invokevirtual 41, 3) := by decide +kernel
theorem dX8_readNext_13 : decode cX8_readNext 13 = .ok (.ifCond .ne 5, 3) := by decide +kernel
theorem dX8_readNext_16 : decode cX8_readNext 16 = .ok (.iconst 0, 1) := by decide +kernel
theorem dX8_readNext_17 : decode cX8_readNext 17 = .ok (.ireturn, 1) := by decide +kernel
theorem dX8_readNext_18 : decode cX8_readNext 18 = .ok (.aload_n 0, 1) := by decide +kernel
theorem dX8_readNext_19 : decode cX8_readNext 19 = .ok (.invokevirtual 37, 3) := by decide +kernel
theorem dX8_readNext_22 : decode cX8_readNext 22 = .ok (.ireturn, 1) := by decide +kernel
set_option maxRecDepth 20000 in
theorem ggX8_readOrder_X8_isRead : GoodIn wsX8_readOrder wsX8_isRead := goodIn_r _ [6, 7, 8, 9, 95, 96, 97, 98, 99, 100, 101, 102] (by decide +kernel) (by decide +kernel)
set_option maxRecDepth 20000 in
theorem gX8_readOrder_X8_isRead : GoodIn wsX8_readOrder (wsV RX8 41 RX8 yX8_isRead wsX8_isRead) := goodIn_app (goodIn_of _ (by decide +kernel)) ggX8_readOrder_X8_isRead
set_option maxRecDepth 20000 in
theorem ggX8_readOrder_X8_areRead : GoodIn wsX8_readOrder wsX8_areRead := goodIn_r _ [13, 14, 15, 16, 17, 18, 19, 20, 21, 22, 23, 24, 25, 26, 27, 28, 29, 30, 31, 32, 33, 34, 35, 36, 37, 38, 39, 40, 41, 42, 43, 44, 45, 46, 47, 48, 49, 50, 51, 52, 53, 54, 55, 56, 57, 58, 59, 60, 61, 62, 2, 3, 4, 5, 6, 7, 8, 9, 103, 104, 105, 106, 95, 96, 97, 98, 99, 100, 101, 102] (by decide +kernel) (by decide +kernel)
set_option maxRecDepth 20000 in
theorem gX8_readOrder_X8_areRead : GoodIn wsX8_readOrder (wsV RX8 47 RX8 yX8_areRead wsX8_areRead) := goodIn_app (goodIn_of _ (by decide +kernel)) ggX8_readOrder_X8_areRead
set_option maxRecDepth 20000 in
theorem ggX8_readOrder_X8_readKindAndWick : GoodIn wsX8_readOrder wsX8_readKindAndWick := goodIn_r _ [66, 67, 68, 69, 70, 71, 72, 5, 73, 7, 8, 9, 2, 3, 4, 6, 95, 96, 97, 98, 99, 100, 101, 102] (by decide +kernel) (by decide +kernel)
set_option maxRecDepth 20000 in
theorem gX8_readOrder_X8_readKindAndWick : GoodIn wsX8_readOrder (wsV RX8 51 RX8 yX8_readKindAndWick wsX8_readKindAndWick) := goodIn_app (goodIn_of _ (by decide +kernel)) ggX8_readOrder_X8_readKindAndWick
set_option maxRecDepth 20000 in
theorem ggX8_readOrder_X8_readLanternAndPlace : GoodIn wsX8_readOrder wsX8_readLanternAndPlace := goodIn_r _ [77, 67, 68, 69, 78, 79, 80, 5, 81, 70, 71, 72, 73, 7, 8, 9, 2, 3, 4, 6, 95, 96, 97, 98, 99, 100, 101, 102] (by decide +kernel) (by decide +kernel)
set_option maxRecDepth 20000 in
theorem gX8_readOrder_X8_readLanternAndPlace : GoodIn wsX8_readOrder (wsV RX8 56 RX8 yX8_readLanternAndPlace wsX8_readLanternAndPlace) := goodIn_app (goodIn_of _ (by decide +kernel)) ggX8_readOrder_X8_readLanternAndPlace
set_option maxRecDepth 20000 in
theorem ggX8_readOrder_X8_readFrom : GoodIn wsX8_readOrder wsX8_readFrom := goodIn_r _ [85, 67, 86, 2, 3, 4, 5, 6, 7, 8, 9, 78, 79, 80, 81, 70, 71, 72, 73, 95, 96, 97, 98, 99, 100, 101, 102] (by decide +kernel) (by decide +kernel)
set_option maxRecDepth 20000 in
theorem gX8_readOrder_X8_readFrom : GoodIn wsX8_readOrder (wsV RX8 59 RX8 yX8_readFrom wsX8_readFrom) := goodIn_app (goodIn_of _ (by decide +kernel)) ggX8_readOrder_X8_readFrom
set_option maxRecDepth 20000 in
theorem ggX8_readOrder_X8_readLanternAndGlow : GoodIn wsX8_readOrder wsX8_readLanternAndGlow := goodIn_r _ [90, 67, 68, 69, 78, 79, 80, 5, 81, 70, 71, 72, 73, 7, 8, 9, 2, 3, 4, 6, 95, 96, 97, 98, 99, 100, 101, 102] (by decide +kernel) (by decide +kernel)
set_option maxRecDepth 20000 in
theorem gX8_readOrder_X8_readLanternAndGlow : GoodIn wsX8_readOrder (wsV RX8 66 RX8 yX8_readLanternAndGlow wsX8_readLanternAndGlow) := goodIn_app (goodIn_of _ (by decide +kernel)) ggX8_readOrder_X8_readLanternAndGlow
set_option maxRecDepth 20000 in
theorem ggX8_readOrder_X8_readTicks : GoodIn wsX8_readOrder wsX8_readTicks := goodIn_r _ [94, 67, 68, 78, 79, 80, 5, 81, 70, 71, 72, 73, 7, 8, 9, 95, 96, 97, 98, 99, 100, 101, 102] (by decide +kernel) (by decide +kernel)
set_option maxRecDepth 20000 in
theorem gX8_readOrder_X8_readTicks : GoodIn wsX8_readOrder (wsV RX8 71 RX8 yX8_readTicks wsX8_readTicks) := goodIn_app (goodIn_of _ (by decide +kernel)) ggX8_readOrder_X8_readTicks
theorem dX8_readOrder_0 : decode cX8_readOrder 0 = .ok (.aload_n 0, 1) := by decide +kernel
theorem dX8_readOrder_1 : decode cX8_readOrder 1 = .ok (.bipush 104, 2) := by decide +kernel
theorem dX8_readOrder_3 : decode cX8_readOrder 3 = .ok (.invokevirtual 41, 3) := by decide +kernel
theorem dX8_readOrder_6 : decode cX8_readOrder 6 = .ok (.ifCond .eq 30, 3) := by decide +kernel
theorem dX8_readOrder_9 : decode cX8_readOrder 9 = .ok (.aload_n 0, 1) := by decide +kernel
theorem dX8_readOrder_10 : decode cX8_readOrder 10 = .ok (.iconst 0, 1) := by decide +kernel
theorem dX8_readOrder_11 : decode cX8_readOrder 11 = .ok (.putfield 22, 3) := by decide +kernel
theorem dX8_readOrder_14 : decode cX8_readOrder 14 = .ok (.aload_n 0, 1) := by decide +kernel
theorem dX8_readOrder_15 : decode cX8_readOrder 15 = .ok (.ldc 45, 2) := by decide +kernel
theorem dX8_readOrder_17 : decode cX8_readOrder 17 = .ok (.invokevirtual 47, 3) := by decide +kernel
theorem dX8_readOrder_20 : decode cX8_readOrder 20 = .ok (.ifCond .eq 14, 3) := by decide +kernel
theorem dX8_readOrder_23 : decode cX8_readOrder 23 = .ok (.aload_n 0, 1) := by decide +kernel
theorem dX8_readOrder_24 : decode cX8_readOrder 24 = .ok (.invokevirtual 51, 3) := by decide +kernel
theorem dX8_readOrder_27 : decode cX8_readOrder 27 = .ok (.ifCond .eq 7, 3) := by decide +kernel
theorem dX8_readOrder_30 : decode cX8_readOrder 30 = .ok (.iconst 1, 1) := by decide +kernel
theorem dX8_readOrder_31 : decode cX8_readOrder 31 = .ok (.goto 4, 3) := by decide +kernel
theorem dX8_readOrder_34 : decode cX8_readOrder 34 = .ok (.iconst 0, 1) := by decide +kernel
theorem dX8_readOrder_35 : decode cX8_readOrder 35 = .ok (.ireturn, 1) := by decide +kernel
theorem dX8_readOrder_36 : decode cX8_readOrder 36 = .ok (.aload_n 0, 1) := by decide +kernel
theorem dX8_readOrder_37 : decode cX8_readOrder 37 = .ok (.bipush 119, 2) := by decide +kernel
theorem dX8_readOrder_39 : decode cX8_readOrder 39 = .ok (.invokevirtual 41, 3) := by decide +kernel
theorem dX8_readOrder_42 : decode cX8_readOrder 42 = .ok (.ifCond .eq 37, 3) := by decide +kernel
theorem dX8_readOrder_45 : decode cX8_readOrder 45 = .ok (.aload_n 0, 1) := by decide +kernel
theorem dX8_readOrder_46 : decode cX8_readOrder 46 = .ok (.iconst 1, 1) := by decide +kernel
theorem dX8_readOrder_47 : decode cX8_readOrder 47 = .ok (.putfield 22, 3) := by decide +kernel
theorem dX8_readOrder_50 : decode cX8_readOrder 50 = .ok (.aload_n 0, 1) := by decide +kernel
theorem dX8_readOrder_51 : decode cX8_readOrder 51 = .ok (.ldc 54, 2) := by decide +kernel
theorem dX8_readOrder_53 : decode cX8_readOrder 53 = .ok (.invokevirtual 47, 3) := by decide +kernel
theorem dX8_readOrder_56 : decode cX8_readOrder 56 = .ok (.ifCond .eq 21, 3) := by decide +kernel
theorem dX8_readOrder_59 : decode cX8_readOrder 59 = .ok (.aload_n 0, 1) := by decide +kernel
theorem dX8_readOrder_60 : decode cX8_readOrder 60 = .ok (.invokevirtual 56, 3) := by decide +kernel
theorem dX8_readOrder_63 : decode cX8_readOrder 63 = .ok (.ifCond .eq 14, 3) := by decide +kernel
theorem dX8_readOrder_66 : decode cX8_readOrder 66 = .ok (.aload_n 0, 1) := by decide +kernel
theorem dX8_readOrder_67 : decode cX8_readOrder 67 = .ok (.invokevirtual 59, 3) := by decide +kernel
theorem dX8_readOrder_70 : decode cX8_readOrder 70 = .ok (.ifCond .eq 7, 3) := by decide +kernel
theorem dX8_readOrder_73 : decode cX8_readOrder 73 = .ok (.iconst 1, 1) := by decide +kernel
theorem dX8_readOrder_74 : decode cX8_readOrder 74 = .ok (.goto 4, 3) := by decide +kernel
theorem dX8_readOrder_77 : decode cX8_readOrder 77 = .ok (.iconst 0, 1) := by decide +kernel
theorem dX8_readOrder_78 : decode cX8_readOrder 78 = .ok (.ireturn, 1) := by decide +kernel
theorem dX8_readOrder_79 : decode cX8_readOrder 79 = .ok (.aload_n 0, 1) := by decide +kernel
theorem dX8_readOrder_80 : decode cX8_readOrder 80 = .ok (.bipush 99, 2) := by decide +kernel
theorem dX8_readOrder_82 : decode cX8_readOrder 82 = .ok (.invokevirtual 41, 3) := by decide +kernel
theorem dX8_readOrder_85 : decode cX8_readOrder 85 = .ok (.ifCond .eq 30, 3) := by decide +kernel
theorem dX8_readOrder_88 : decode cX8_readOrder 88 = .ok (.aload_n 0, 1) := by decide +kernel
theorem dX8_readOrder_89 : decode cX8_readOrder 89 = .ok (.iconst 2, 1) := by decide +kernel
theorem dX8_readOrder_90 : decode cX8_readOrder 90 = .ok (.putfield 22, 3) := by decide +kernel
theorem dX8_readOrder_93 : decode cX8_readOrder 93 = .ok (.aload_n 0, 1) := by decide +kernel
theorem dX8_readOrder_94 : decode cX8_readOrder 94 = .ok (.ldc 62, 2) := by decide +kernel
theorem dX8_readOrder_96 : decode cX8_readOrder 96 = .ok (.invokevirtual 47, 3) := by decide +kernel
theorem dX8_readOrder_99 : decode cX8_readOrder 99 = .ok (.ifCond .eq 14, 3) := by decide +kernel
theorem dX8_readOrder_102 : decode cX8_readOrder 102 = .ok (.aload_n 0, 1) := by decide +kernel
theorem dX8_readOrder_103 : decode cX8_readOrder 103 = .ok (.invokevirtual 56, 3) := by decide +kernel
theorem dX8_readOrder_106 : decode cX8_readOrder 106 = .ok (.ifCond .eq 7, 3) := by decide +kernel
theorem dX8_readOrder_109 : decode cX8_readOrder 109 = .ok (.iconst 1, 1) := by decide +kernel
theorem dX8_readOrder_110 : decode cX8_readOrder 110 = .ok (.goto 4, 3) := by decide +kernel
theorem dX8_readOrder_113 : decode cX8_readOrder 113 = .ok (.iconst 0, 1) := by decide +kernel
theorem dX8_readOrder_114 : decode cX8_readOrder 114 = .ok (.ireturn, 1) := by decide +kernel
theorem dX8_readOrder_115 : decode cX8_readOrder 115 = .ok (.aload_n 0, 1) := by decide +kernel
theorem dX8_readOrder_116 : decode cX8_readOrder 116 = .ok (.bipush 115, 2) := by decide +kernel
theorem dX8_readOrder_118 : decode cX8_readOrder 118 = .ok (.invokevirtual 41, 3) := by decide +kernel
theorem dX8_readOrder_121 : decode cX8_readOrder 121 = .ok (.ifCond .eq 30, 3) := by decide +kernel
theorem dX8_readOrder_124 : decode cX8_readOrder 124 = .ok (.aload_n 0, 1) := by decide +kernel
theorem dX8_readOrder_125 : decode cX8_readOrder 125 = .ok (.iconst 3, 1) := by decide +kernel
theorem dX8_readOrder_126 : decode cX8_readOrder 126 = .ok (.putfield 22, 3) := by decide +kernel
theorem dX8_readOrder_129 : decode cX8_readOrder 129 = .ok (.aload_n 0, 1) := by decide +kernel
theorem dX8_readOrder_130 : decode cX8_readOrder 130 = .ok (.ldc 64, 2) := by decide +kernel
theorem dX8_readOrder_132 : decode cX8_readOrder 132 = .ok (.invokevirtual 47, 3) := by decide +kernel
theorem dX8_readOrder_135 : decode cX8_readOrder 135 = .ok (.ifCond .eq 14, 3) := by decide +kernel
theorem dX8_readOrder_138 : decode cX8_readOrder 138 = .ok (.aload_n 0, 1) := by decide +kernel
theorem dX8_readOrder_139 : decode cX8_readOrder 139 = .ok (.invokevirtual 66, 3) := by decide +kernel
theorem dX8_readOrder_142 : decode cX8_readOrder 142 = .ok (.ifCond .eq 7, 3) := by decide +kernel
theorem dX8_readOrder_145 : decode cX8_readOrder 145 = .ok (.iconst 1, 1) := by decide +kernel
theorem dX8_readOrder_146 : decode cX8_readOrder 146 = .ok (.goto 4, 3) := by decide +kernel
theorem dX8_readOrder_149 : decode cX8_readOrder 149 = .ok (.iconst 0, 1) := by decide +kernel
theorem dX8_readOrder_150 : decode cX8_readOrder 150 = .ok (.ireturn, 1) := by decide +kernel
theorem dX8_readOrder_151 : decode cX8_readOrder 151 = .ok (.aload_n 0, 1) := by decide +kernel
theorem dX8_readOrder_152 : decode cX8_readOrder 152 = .ok (.iconst 4, 1) := by decide +kernel
theorem dX8_readOrder_153 : decode cX8_readOrder 153 = .ok (.putfield 22, 3) := by decide +kernel
theorem dX8_readOrder_156 : decode cX8_readOrder 156 = .ok (.aload_n 0, 1) := by decide +kernel
theorem dX8_readOrder_157 : decode cX8_readOrder 157 = .ok (.ldc 69, 2) := by decide +kernel
theorem dX8_readOrder_159 : decode cX8_readOrder 159 = .ok (.invokevirtual 47, 3) := by decide +kernel
theorem dX8_readOrder_162 : decode cX8_readOrder 162 = .ok (.ifCond .eq 14, 3) := by decide +kernel
theorem dX8_readOrder_165 : decode cX8_readOrder 165 = .ok (.aload_n 0, 1) := by decide +kernel
theorem dX8_readOrder_166 : decode cX8_readOrder 166 = .ok (.invokevirtual 71, 3) := by decide +kernel
theorem dX8_readOrder_169 : decode cX8_readOrder 169 = .ok (.ifCond .eq 7, 3) := by decide +kernel
theorem dX8_readOrder_172 : decode cX8_readOrder 172 = .ok (.iconst 1, 1) := by decide +kernel
theorem dX8_readOrder_173 : decode cX8_readOrder 173 = .ok (.goto 4, 3) := by decide +kernel
theorem dX8_readOrder_176 : decode cX8_readOrder 176 = .ok (.iconst 0, 1) := by decide +kernel
theorem dX8_readOrder_177 : decode cX8_readOrder 177 = .ok (.ireturn, 1) := by decide +kernel
set_option maxRecDepth 20000 in
theorem ggX8_readKindAndWick_X8_isDigitRead : GoodIn wsX8_readKindAndWick wsX8_isDigitRead := goodIn_r _ [8, 9, 10, 11, 1, 16, 17, 18, 19, 20, 21, 22, 23] (by decide +kernel) (by decide +kernel)
set_option maxRecDepth 20000 in
theorem gX8_readKindAndWick_X8_isDigitRead : GoodIn wsX8_readKindAndWick (wsV RX8 74 RX8 yX8_isDigitRead wsX8_isDigitRead) := goodIn_app (goodIn_of _ (by decide +kernel)) ggX8_readKindAndWick_X8_isDigitRead
set_option maxRecDepth 20000 in
theorem ggX8_readKindAndWick_X8_isRead : GoodIn wsX8_readKindAndWick wsX8_isRead := goodIn_r _ [15, 9, 10, 11, 16, 17, 18, 19, 20, 21, 22, 23] (by decide +kernel) (by decide +kernel)
set_option maxRecDepth 20000 in
theorem gX8_readKindAndWick_X8_isRead : GoodIn wsX8_readKindAndWick (wsV RX8 41 RX8 yX8_isRead wsX8_isRead) := goodIn_app (goodIn_of _ (by decide +kernel)) ggX8_readKindAndWick_X8_isRead
theorem dX8_readKindAndWick_0 : decode cX8_readKindAndWick 0 = .ok (.aload_n 0, 1) := by decide +kernel
theorem dX8_readKindAndWick_1 : decode cX8_readKindAndWick 1 = .ok (.invokevirtual 74, 3) := by decide +kernel
theorem dX8_readKindAndWick_4 : decode cX8_readKindAndWick 4 = .ok (.ifCond .ne 5, 3) := by decide +kernel
theorem dX8_readKindAndWick_7 : decode cX8_readKindAndWick 7 = .ok (.iconst 0, 1) := by decide +kernel
theorem dX8_readKindAndWick_8 : decode cX8_readKindAndWick 8 = .ok (.ireturn, 1) := by decide +kernel
theorem dX8_readKindAndWick_9 : decode cX8_readKindAndWick 9 = .ok (.aload_n 0, 1) := by decide +kernel
theorem dX8_readKindAndWick_10 : decode cX8_readKindAndWick 10 = .ok (.aload_n 0, 1) := by decide +kernel
theorem dX8_readKindAndWick_11 : decode cX8_readKindAndWick 11 = .ok (.getfield 77, 3) := by decide +kernel
theorem dX8_readKindAndWick_14 : decode cX8_readKindAndWick 14 = .ok (.putfield 25, 3) := by decide +kernel
theorem dX8_readKindAndWick_17 : decode cX8_readKindAndWick 17 = .ok (.aload_n 0, 1) := by decide +kernel
theorem dX8_readKindAndWick_18 : decode cX8_readKindAndWick 18 = .ok (.bipush 42, 2) := by decide +kernel
theorem dX8_readKindAndWick_20 : decode cX8_readKindAndWick 20 = .ok (.invokevirtual 41, 3) := by decide +kernel
theorem dX8_readKindAndWick_23 : decode cX8_readKindAndWick 23 = .ok (.ifCond .eq 10, 3) := by decide +kernel
theorem dX8_readKindAndWick_26 : decode cX8_readKindAndWick 26 = .ok (.aload_n 0, 1) := by decide +kernel
theorem dX8_readKindAndWick_27 : decode cX8_readKindAndWick 27 = .ok (.invokevirtual 74, 3) := by decide +kernel
theorem dX8_readKindAndWick_30 : decode cX8_readKindAndWick 30 = .ok (.ifCond .ne 5, 3) := by decide +kernel
theorem dX8_readKindAndWick_33 : decode cX8_readKindAndWick 33 = .ok (.iconst 0, 1) := by decide +kernel
theorem dX8_readKindAndWick_34 : decode cX8_readKindAndWick 34 = .ok (.ireturn, 1) := by decide +kernel
theorem dX8_readKindAndWick_35 : decode cX8_readKindAndWick 35 = .ok (.aload_n 0, 1) := by decide +kernel
theorem dX8_readKindAndWick_36 : decode cX8_readKindAndWick 36 = .ok (.aload_n 0, 1) := by decide +kernel
theorem dX8_readKindAndWick_37 : decode cX8_readKindAndWick 37 = .ok (.getfield 77, 3) := by decide +kernel
theorem dX8_readKindAndWick_40 : decode cX8_readKindAndWick 40 = .ok (.putfield 28, 3) := by decide +kernel
theorem dX8_readKindAndWick_43 : decode cX8_readKindAndWick 43 = .ok (.iconst 1, 1) := by decide +kernel
theorem dX8_readKindAndWick_44 : decode cX8_readKindAndWick 44 = .ok (.ireturn, 1) := by decide +kernel
set_option maxRecDepth 20000 in
theorem ggX8_readLanternAndPlace_X8_areDigitsRead : GoodIn wsX8_readLanternAndPlace wsX8_areDigitsRead := goodIn_r _ [8, 1, 9, 10, 11, 7, 12, 13, 14, 15, 20, 21, 22, 23, 24, 25, 26, 27] (by decide +kernel) (by decide +kernel)
set_option maxRecDepth 20000 in
theorem gX8_readLanternAndPlace_X8_areDigitsRead : GoodIn wsX8_readLanternAndPlace (wsV RX8 80 RX8 yX8_areDigitsRead wsX8_areDigitsRead) := goodIn_app (goodIn_of _ (by decide +kernel)) ggX8_readLanternAndPlace_X8_areDigitsRead
set_option maxRecDepth 20000 in
theorem ggX8_readLanternAndPlace_X8_isRead : GoodIn wsX8_readLanternAndPlace wsX8_isRead := goodIn_r _ [19, 13, 14, 15, 20, 21, 22, 23, 24, 25, 26, 27] (by decide +kernel) (by decide +kernel)
set_option maxRecDepth 20000 in
theorem gX8_readLanternAndPlace_X8_isRead : GoodIn wsX8_readLanternAndPlace (wsV RX8 41 RX8 yX8_isRead wsX8_isRead) := goodIn_app (goodIn_of _ (by decide +kernel)) ggX8_readLanternAndPlace_X8_isRead
set_option maxRecDepth 20000 in
theorem ggX8_readLanternAndPlace_X8_isDigitRead : GoodIn wsX8_readLanternAndPlace wsX8_isDigitRead := goodIn_r _ [12, 13, 14, 15, 1, 20, 21, 22, 23, 24, 25, 26, 27] (by decide +kernel) (by decide +kernel)
set_option maxRecDepth 20000 in
theorem gX8_readLanternAndPlace_X8_isDigitRead : GoodIn wsX8_readLanternAndPlace (wsV RX8 74 RX8 yX8_isDigitRead wsX8_isDigitRead) := goodIn_app (goodIn_of _ (by decide +kernel)) ggX8_readLanternAndPlace_X8_isDigitRead
theorem dX8_readLanternAndPlace_0 : decode cX8_readLanternAndPlace 0 = .ok (.aload_n 0, 1) := by decide +kernel
theorem dX8_readLanternAndPlace_1 : decode cX8_readLanternAndPlace 1 = .ok (.invokevirtual 80, 3) := by decide +kernel
theorem dX8_readLanternAndPlace_4 : decode cX8_readLanternAndPlace 4 = .ok (.ifCond .ne 5, 3) := by decide +kernel
theorem dX8_readLanternAndPlace_7 : decode cX8_readLanternAndPlace 7 = .ok (.iconst 0, 1) := by decide +kernel
theorem dX8_readLanternAndPlace_8 : decode cX8_readLanternAndPlace 8 = .ok (.ireturn, 1) := by decide +kernel
theorem dX8_readLanternAndPlace_9 : decode cX8_readLanternAndPlace 9 = .ok (.aload_n 0, 1) := by decide +kernel
theorem dX8_readLanternAndPlace_10 : decode cX8_readLanternAndPlace 10 = .ok (.aload_n 0, 1) := by decide +kernel
theorem dX8_readLanternAndPlace_11 : decode cX8_readLanternAndPlace 11 = .ok (.getfield 77, 3) := by decide +kernel
theorem dX8_readLanternAndPlace_14 : decode cX8_readLanternAndPlace 14 = .ok (.putfield 25, 3) := by decide +kernel
theorem dX8_readLanternAndPlace_17 : decode cX8_readLanternAndPlace 17 = .ok (.aload_n 0, 1) := by decide +kernel
theorem dX8_readLanternAndPlace_18 : decode cX8_readLanternAndPlace 18 = .ok (.bipush 46, 2) := by decide +kernel
theorem dX8_readLanternAndPlace_20 : decode cX8_readLanternAndPlace 20 = .ok (.invokevirtual 41, 3) := by decide +kernel
theorem dX8_readLanternAndPlace_23 : decode cX8_readLanternAndPlace 23 = .ok (.ifCond .eq 10, 3) := by decide +kernel
theorem dX8_readLanternAndPlace_26 : decode cX8_readLanternAndPlace 26 = .ok (.aload_n 0, 1) := by decide +kernel
theorem dX8_readLanternAndPlace_27 : decode cX8_readLanternAndPlace 27 = .ok (.invokevirtual 74, 3) := by decide +kernel
theorem dX8_readLanternAndPlace_30 : decode cX8_readLanternAndPlace 30 = .ok (.ifCond .ne 5, 3) := by decide +kernel
theorem dX8_readLanternAndPlace_33 : decode cX8_readLanternAndPlace 33 = .ok (.iconst 0, 1) := by decide +kernel
theorem dX8_readLanternAndPlace_34 : decode cX8_readLanternAndPlace 34 = .ok (.ireturn, 1) := by decide +kernel
theorem dX8_readLanternAndPlace_35 : decode cX8_readLanternAndPlace 35 = .ok (.aload_n 0, 1) := by decide +kernel
theorem dX8_readLanternAndPlace_36 : decode cX8_readLanternAndPlace 36 = .ok (.aload_n 0, 1) := by decide +kernel
theorem dX8_readLanternAndPlace_37 : decode cX8_readLanternAndPlace 37 = .ok (.getfield 77, 3) := by decide +kernel
theorem dX8_readLanternAndPlace_40 : decode cX8_readLanternAndPlace 40 = .ok (.putfield 28, 3) := by decide +kernel
theorem dX8_readLanternAndPlace_43 : decode cX8_readLanternAndPlace 43 = .ok (.iconst 1, 1) := by decide +kernel
theorem dX8_readLanternAndPlace_44 : decode cX8_readLanternAndPlace 44 = .ok (.ireturn, 1) := by decide +kernel
set_option maxRecDepth 20000 in
theorem ggX8_readFrom_X8_isRead : GoodIn wsX8_readFrom wsX8_isRead := goodIn_r _ [7, 8, 9, 10, 19, 20, 21, 22, 23, 24, 25, 26] (by decide +kernel) (by decide +kernel)
set_option maxRecDepth 20000 in
theorem gX8_readFrom_X8_isRead : GoodIn wsX8_readFrom (wsV RX8 41 RX8 yX8_isRead wsX8_isRead) := goodIn_app (goodIn_of _ (by decide +kernel)) ggX8_readFrom_X8_isRead
set_option maxRecDepth 20000 in
theorem ggX8_readFrom_X8_areDigitsRead : GoodIn wsX8_readFrom wsX8_areDigitsRead := goodIn_r _ [14, 1, 15, 16, 17, 6, 18, 8, 9, 10, 19, 20, 21, 22, 23, 24, 25, 26] (by decide +kernel) (by decide +kernel)
set_option maxRecDepth 20000 in
theorem gX8_readFrom_X8_areDigitsRead : GoodIn wsX8_readFrom (wsV RX8 80 RX8 yX8_areDigitsRead wsX8_areDigitsRead) := goodIn_app (goodIn_of _ (by decide +kernel)) ggX8_readFrom_X8_areDigitsRead
theorem dX8_readFrom_0 : decode cX8_readFrom 0 = .ok (.aload_n 0, 1) := by decide +kernel
theorem dX8_readFrom_1 : decode cX8_readFrom 1 = .ok (.bipush 60, 2) := by decide +kernel
theorem dX8_readFrom_3 : decode cX8_readFrom 3 = .ok (.invokevirtual 41, 3) := by decide +kernel
theorem dX8_readFrom_6 : decode cX8_readFrom 6 = .ok (.ifCond .eq 10, 3) := by decide +kernel
theorem dX8_readFrom_9 : decode cX8_readFrom 9 = .ok (.aload_n 0, 1) := by decide +kernel
theorem dX8_readFrom_10 : decode cX8_readFrom 10 = .ok (.invokevirtual 80, 3) := by decide +kernel
theorem dX8_readFrom_13 : decode cX8_readFrom 13 = .ok (.ifCond .ne 5, 3) := by decide +kernel
theorem dX8_readFrom_16 : decode cX8_readFrom 16 = .ok (.iconst 0, 1) := by decide +kernel
theorem dX8_readFrom_17 : decode cX8_readFrom 17 = .ok (.ireturn, 1) := by decide +kernel
theorem dX8_readFrom_18 : decode cX8_readFrom 18 = .ok (.aload_n 0, 1) := by decide +kernel
theorem dX8_readFrom_19 : decode cX8_readFrom 19 = .ok (.aload_n 0, 1) := by decide +kernel
theorem dX8_readFrom_20 : decode cX8_readFrom 20 = .ok (.getfield 77, 3) := by decide +kernel
theorem dX8_readFrom_23 : decode cX8_readFrom 23 = .ok (.putfield 31, 3) := by decide +kernel
theorem dX8_readFrom_26 : decode cX8_readFrom 26 = .ok (.iconst 1, 1) := by decide +kernel
theorem dX8_readFrom_27 : decode cX8_readFrom 27 = .ok (.ireturn, 1) := by decide +kernel
set_option maxRecDepth 20000 in
theorem ggX8_readLanternAndGlow_X8_areDigitsRead : GoodIn wsX8_readLanternAndGlow wsX8_areDigitsRead := goodIn_r _ [8, 1, 9, 10, 11, 7, 12, 13, 14, 15, 20, 21, 22, 23, 24, 25, 26, 27] (by decide +kernel) (by decide +kernel)
set_option maxRecDepth 20000 in
theorem gX8_readLanternAndGlow_X8_areDigitsRead : GoodIn wsX8_readLanternAndGlow (wsV RX8 80 RX8 yX8_areDigitsRead wsX8_areDigitsRead) := goodIn_app (goodIn_of _ (by decide +kernel)) ggX8_readLanternAndGlow_X8_areDigitsRead
set_option maxRecDepth 20000 in
theorem ggX8_readLanternAndGlow_X8_isRead : GoodIn wsX8_readLanternAndGlow wsX8_isRead := goodIn_r _ [19, 13, 14, 15, 20, 21, 22, 23, 24, 25, 26, 27] (by decide +kernel) (by decide +kernel)
set_option maxRecDepth 20000 in
theorem gX8_readLanternAndGlow_X8_isRead : GoodIn wsX8_readLanternAndGlow (wsV RX8 41 RX8 yX8_isRead wsX8_isRead) := goodIn_app (goodIn_of _ (by decide +kernel)) ggX8_readLanternAndGlow_X8_isRead
theorem dX8_readLanternAndGlow_0 : decode cX8_readLanternAndGlow 0 = .ok (.aload_n 0, 1) := by decide +kernel
theorem dX8_readLanternAndGlow_1 : decode cX8_readLanternAndGlow 1 = .ok (.invokevirtual 80, 3) := by decide +kernel
theorem dX8_readLanternAndGlow_4 : decode cX8_readLanternAndGlow 4 = .ok (.ifCond .ne 5, 3) := by decide +kernel
theorem dX8_readLanternAndGlow_7 : decode cX8_readLanternAndGlow 7 = .ok (.iconst 0, 1) := by decide +kernel
theorem dX8_readLanternAndGlow_8 : decode cX8_readLanternAndGlow 8 = .ok (.ireturn, 1) := by decide +kernel
theorem dX8_readLanternAndGlow_9 : decode cX8_readLanternAndGlow 9 = .ok (.aload_n 0, 1) := by decide +kernel
theorem dX8_readLanternAndGlow_10 : decode cX8_readLanternAndGlow 10 = .ok (.aload_n 0, 1) := by decide +kernel
theorem dX8_readLanternAndGlow_11 : decode cX8_readLanternAndGlow 11 = .ok (.getfield 77, 3) := by decide +kernel
theorem dX8_readLanternAndGlow_14 : decode cX8_readLanternAndGlow 14 = .ok (.putfield 25, 3) := by decide +kernel
theorem dX8_readLanternAndGlow_17 : decode cX8_readLanternAndGlow 17 = .ok (.aload_n 0, 1) := by decide +kernel
theorem dX8_readLanternAndGlow_18 : decode cX8_readLanternAndGlow 18 = .ok (.aload_n 0, 1) := by decide +kernel
theorem dX8_readLanternAndGlow_19 : decode cX8_readLanternAndGlow 19 = .ok (.bipush 43, 2) := by decide +kernel
theorem dX8_readLanternAndGlow_21 : decode cX8_readLanternAndGlow 21 = .ok (.invokevirtual 41, 3) := by decide +kernel
theorem dX8_readLanternAndGlow_24 : decode cX8_readLanternAndGlow 24 = .ok (.ifCond .eq 7, 3) := by decide +kernel
theorem dX8_readLanternAndGlow_27 : decode cX8_readLanternAndGlow 27 = .ok (.iconst 1, 1) := by decide +kernel
theorem dX8_readLanternAndGlow_28 : decode cX8_readLanternAndGlow 28 = .ok (.goto 4, 3) := by decide +kernel
theorem dX8_readLanternAndGlow_31 : decode cX8_readLanternAndGlow 31 = .ok (.iconst 0, 1) := by decide +kernel
theorem dX8_readLanternAndGlow_32 : decode cX8_readLanternAndGlow 32 = .ok (.putfield 28, 3) := by decide +kernel
theorem dX8_readLanternAndGlow_35 : decode cX8_readLanternAndGlow 35 = .ok (.aload_n 0, 1) := by decide +kernel
theorem dX8_readLanternAndGlow_36 : decode cX8_readLanternAndGlow 36 = .ok (.getfield 28, 3) := by decide +kernel
theorem dX8_readLanternAndGlow_39 : decode cX8_readLanternAndGlow 39 = .ok (.iconst 1, 1) := by decide +kernel
theorem dX8_readLanternAndGlow_40 : decode cX8_readLanternAndGlow 40 = .ok (.if_icmp .eq 12, 3) := by decide +kernel
theorem dX8_readLanternAndGlow_43 : decode cX8_readLanternAndGlow 43 = .ok (.aload_n 0, 1) := by decide +kernel
theorem dX8_readLanternAndGlow_44 : decode cX8_readLanternAndGlow 44 = .ok (.bipush 45, 2) := by decide +kernel
theorem dX8_readLanternAndGlow_46 : decode cX8_readLanternAndGlow 46 = .ok (.invokevirtual 41, 3) := by decide +kernel
theorem dX8_readLanternAndGlow_49 : decode cX8_readLanternAndGlow 49 = .ok (.ifCond .eq 7, 3) := by decide +kernel
theorem dX8_readLanternAndGlow_52 : decode cX8_readLanternAndGlow 52 = .ok (.iconst 1, 1) := by decide +kernel
theorem dX8_readLanternAndGlow_53 : decode cX8_readLanternAndGlow 53 = .ok (.goto 4, 3) := by decide +kernel
theorem dX8_readLanternAndGlow_56 : decode cX8_readLanternAndGlow 56 = .ok (.iconst 0, 1) := by decide +kernel
theorem dX8_readLanternAndGlow_57 : decode cX8_readLanternAndGlow 57 = .ok (.ireturn, 1) := by decide +kernel
set_option maxRecDepth 20000 in
theorem ggX8_readTicks_X8_areDigitsRead : GoodIn wsX8_readTicks wsX8_areDigitsRead := goodIn_r _ [7, 1, 8, 9, 10, 6, 11, 12, 13, 14, 15, 16, 17, 18, 19, 20, 21, 22] (by decide +kernel) (by decide +kernel)
set_option maxRecDepth 20000 in
theorem gX8_readTicks_X8_areDigitsRead : GoodIn wsX8_readTicks (wsV RX8 80 RX8 yX8_areDigitsRead wsX8_areDigitsRead) := goodIn_app (goodIn_of _ (by decide +kernel)) ggX8_readTicks_X8_areDigitsRead
theorem dX8_readTicks_0 : decode cX8_readTicks 0 = .ok (.aload_n 0, 1) := by decide +kernel
theorem dX8_readTicks_1 : decode cX8_readTicks 1 = .ok (.invokevirtual 80, 3) := by decide +kernel
theorem dX8_readTicks_4 : decode cX8_readTicks 4 = .ok (.ifCond .ne 5, 3) := by decide +kernel
theorem dX8_readTicks_7 : decode cX8_readTicks 7 = .ok (.iconst 0, 1) := by decide +kernel
theorem dX8_readTicks_8 : decode cX8_readTicks 8 = .ok (.ireturn, 1) := by decide +kernel
theorem dX8_readTicks_9 : decode cX8_readTicks 9 = .ok (.aload_n 0, 1) := by decide +kernel
theorem dX8_readTicks_10 : decode cX8_readTicks 10 = .ok (.aload_n 0, 1) := by decide +kernel
theorem dX8_readTicks_11 : decode cX8_readTicks 11 = .ok (.getfield 77, 3) := by decide +kernel
theorem dX8_readTicks_14 : decode cX8_readTicks 14 = .ok (.putfield 25, 3) := by decide +kernel
theorem dX8_readTicks_17 : decode cX8_readTicks 17 = .ok (.iconst 1, 1) := by decide +kernel
theorem dX8_readTicks_18 : decode cX8_readTicks 18 = .ok (.ireturn, 1) := by decide +kernel
theorem dX8_isRead_0 : decode cX8_isRead 0 = .ok (.aload_n 0, 1) := by decide +kernel
theorem dX8_isRead_1 : decode cX8_isRead 1 = .ok (.getfield 19, 3) := by decide +kernel
theorem dX8_isRead_4 : decode cX8_isRead 4 = .ok (.ifCond .lt 36, 3) := by decide +kernel
theorem dX8_isRead_7 : decode cX8_isRead 7 = .ok (.aload_n 0, 1) := by decide +kernel
theorem dX8_isRead_8 : decode cX8_isRead 8 = .ok (.getfield 19, 3) := by decide +kernel
theorem dX8_isRead_11 : decode cX8_isRead 11 = .ok (.aload_n 0, 1) := by decide +kernel
theorem dX8_isRead_12 : decode cX8_isRead 12 = .ok (.getfield 15, 3) := by decide +kernel
theorem dX8_isRead_15 : decode cX8_isRead 15 = .ok (.if_icmp .ge 25, 3) := by decide +kernel
theorem dX8_isRead_18 : decode cX8_isRead 18 = .ok (.aload_n 0, 1) := by decide +kernel
theorem dX8_isRead_19 : decode cX8_isRead 19 = .ok (.getfield 19, 3) := by decide +kernel
theorem dX8_isRead_22 : decode cX8_isRead 22 = .ok (.bipush 60, 2) := by decide +kernel
theorem dX8_isRead_24 : decode cX8_isRead 24 = .ok (.if_icmp .ge 16, 3) := by decide +kernel
theorem dX8_isRead_27 : decode cX8_isRead 27 = .ok (.aload_n 0, 1) := by decide +kernel
theorem dX8_isRead_28 : decode cX8_isRead 28 = .ok (.getfield 9, 3) := by decide +kernel
theorem dX8_isRead_31 : decode cX8_isRead 31 = .ok (.aload_n 0, 1) := by decide +kernel
theorem dX8_isRead_32 : decode cX8_isRead 32 = .ok (.getfield 19, 3) := by decide +kernel
theorem dX8_isRead_35 : decode cX8_isRead 35 = .ok (.caload, 1) := by decide +kernel
theorem dX8_isRead_36 : decode cX8_isRead 36 = .ok (.iload_n 1, 1) := by decide +kernel
theorem dX8_isRead_37 : decode cX8_isRead 37 = .ok (.if_icmp .eq 5, 3) := by decide +kernel
theorem dX8_isRead_40 : decode cX8_isRead 40 = .ok (.iconst 0, 1) := by decide +kernel
theorem dX8_isRead_41 : decode cX8_isRead 41 = .ok (.ireturn, 1) := by decide +kernel
theorem dX8_isRead_42 : decode cX8_isRead 42 = .ok (.aload_n 0, 1) := by decide +kernel
theorem dX8_isRead_43 : decode cX8_isRead 43 = .ok (.dup, 1) := by decide +kernel
theorem dX8_isRead_44 : decode cX8_isRead 44 = .ok (.getfield 19, 3) := by decide +kernel
theorem dX8_isRead_47 : decode cX8_isRead 47 = .ok (.iconst 1, 1) := by decide +kernel
theorem dX8_isRead_48 : decode cX8_isRead 48 = .ok (.iadd, 1) := by decide +kernel
theorem dX8_isRead_49 : decode cX8_isRead 49 = .ok (.putfield 19, 3) := by decide +kernel
theorem dX8_isRead_52 : decode cX8_isRead 52 = .ok (.iconst 1, 1) := by decide +kernel
theorem dX8_isRead_53 : decode cX8_isRead 53 = .ok (.ireturn, 1) := by decide +kernel
set_option maxRecDepth 20000 in
theorem ggX8_areRead_J0_length_8abf5 : GoodIn wsX8_areRead wsJ0_length_8abf5 := goodIn_r _ [5, 6, 7, 8, 9, 4, 10, 11, 12, 58, 59, 60, 61] (by decide +kernel) (by decide +kernel)
set_option maxRecDepth 20000 in
theorem gX8_areRead_J0_length_8abf5 : GoodIn wsX8_areRead (wsV RX8 83 RJ0 yJ0_length_8abf5 wsJ0_length_8abf5) := goodIn_app (goodIn_of _ (by decide +kernel)) ggX8_areRead_J0_length_8abf5
set_option maxRecDepth 20000 in
theorem ggX8_areRead_J0_charAt_5068e : GoodIn wsX8_areRead wsJ0_charAt_5068e := goodIn_r _ [16, 6, 17, 18, 19, 4, 20, 11, 12, 21, 22, 23, 24, 25, 26, 27, 28, 29, 30, 31, 32, 33, 34, 35, 36, 37, 38, 39, 40, 41, 42, 43, 44, 45, 46, 47, 48, 49, 58, 59, 60, 61] (by decide +kernel) (by decide +kernel)
set_option maxRecDepth 20000 in
theorem gX8_areRead_J0_charAt_5068e : GoodIn wsX8_areRead (wsV RX8 88 RJ0 yJ0_charAt_5068e wsJ0_charAt_5068e) := goodIn_app (goodIn_of _ (by decide +kernel)) ggX8_areRead_J0_charAt_5068e
set_option maxRecDepth 20000 in
theorem ggX8_areRead_X8_isRead : GoodIn wsX8_areRead wsX8_isRead := goodIn_r _ [54, 55, 56, 57, 62, 63, 64, 65, 66, 67, 68, 69] (by decide +kernel) (by decide +kernel)
set_option maxRecDepth 20000 in
theorem gX8_areRead_X8_isRead : GoodIn wsX8_areRead (wsV RX8 41 RX8 yX8_isRead wsX8_isRead) := goodIn_app (goodIn_of _ (by decide +kernel)) ggX8_areRead_X8_isRead
theorem dX8_areRead_0 : decode cX8_areRead 0 = .ok (.iconst 0, 1) := by decide +kernel
theorem dX8_areRead_1 : decode cX8_areRead 1 = .ok (.istore_n 2, 1) := by decide +kernel
theorem dX8_areRead_2 : decode cX8_areRead 2 = .ok (.iload_n 2, 1) := by decide +kernel
theorem dX8_areRead_3 : decode cX8_areRead 3 = .ok (.aload_n 1, 1) := by decide +kernel
theorem dX8_areRead_4 : decode cX8_areRead 4 = .ok (.invokevirtual 83, 3) := by decide +kernel
theorem dX8_areRead_7 : decode cX8_areRead 7 = .ok (.if_icmp .ge 23, 3) := by decide +kernel
theorem dX8_areRead_10 : decode cX8_areRead 10 = .ok (.aload_n 0, 1) := by decide +kernel
theorem dX8_areRead_11 : decode cX8_areRead 11 = .ok (.aload_n 1, 1) := by decide +kernel
theorem dX8_areRead_12 : decode cX8_areRead 12 = .ok (.iload_n 2, 1) := by decide +kernel
theorem dX8_areRead_13 : decode cX8_areRead 13 = .ok (.invokevirtual 88, 3) := by decide +kernel
theorem dX8_areRead_16 : decode cX8_areRead 16 = .ok (.invokevirtual 41, 3) := by decide +kernel
theorem dX8_areRead_19 : decode cX8_areRead 19 = .ok (.ifCond .ne 5, 3) := by decide +kernel
theorem dX8_areRead_22 : decode cX8_areRead 22 = .ok (.iconst 0, 1) := by decide +kernel
theorem dX8_areRead_23 : decode cX8_areRead 23 = .ok (.ireturn, 1) := by decide +kernel
theorem dX8_areRead_24 : decode cX8_areRead 24 = .ok (.iinc 2 1, 3) := by decide +kernel
theorem dX8_areRead_27 : decode cX8_areRead 27 = .ok (.goto (-25), 3) := by decide +kernel
theorem dX8_areRead_30 : decode cX8_areRead 30 = .ok (.iconst 1, 1) := by decide +kernel
theorem dX8_areRead_31 : decode cX8_areRead 31 = .ok (.ireturn, 1) := by decide +kernel
theorem dX8_isDigitRead_0 : decode cX8_isDigitRead 0 = .ok (.aload_n 0, 1) := by decide +kernel
theorem dX8_isDigitRead_1 : decode cX8_isDigitRead 1 = .ok (.getfield 19, 3) := by decide +kernel
theorem dX8_isDigitRead_4 : decode cX8_isDigitRead 4 = .ok (.ifCond .lt 51, 3) := by decide +kernel
theorem dX8_isDigitRead_7 : decode cX8_isDigitRead 7 = .ok (.aload_n 0, 1) := by decide +kernel
theorem dX8_isDigitRead_8 : decode cX8_isDigitRead 8 = .ok (.getfield 19, 3) := by decide +kernel
theorem dX8_isDigitRead_11 : decode cX8_isDigitRead 11 = .ok (.aload_n 0, 1) := by decide +kernel
theorem dX8_isDigitRead_12 : decode cX8_isDigitRead 12 = .ok (.getfield 15, 3) := by decide +kernel
theorem dX8_isDigitRead_15 : decode cX8_isDigitRead 15 = .ok (.if_icmp .ge 40, 3) := by decide +kernel
theorem dX8_isDigitRead_18 : decode cX8_isDigitRead 18 = .ok (.aload_n 0, 1) := by decide +kernel
theorem dX8_isDigitRead_19 : decode cX8_isDigitRead 19 = .ok (.getfield 19, 3) := by decide +kernel
theorem dX8_isDigitRead_22 : decode cX8_isDigitRead 22 = .ok (.bipush 60, 2) := by decide +kernel
theorem dX8_isDigitRead_24 : decode cX8_isDigitRead 24 = .ok (.if_icmp .ge 31, 3) := by decide +kernel
theorem dX8_isDigitRead_27 : decode cX8_isDigitRead 27 = .ok (.aload_n 0, 1) := by decide +kernel
theorem dX8_isDigitRead_28 : decode cX8_isDigitRead 28 = .ok (.getfield 9, 3) := by decide +kernel
theorem dX8_isDigitRead_31 : decode cX8_isDigitRead 31 = .ok (.aload_n 0, 1) := by decide +kernel
theorem dX8_isDigitRead_32 : decode cX8_isDigitRead 32 = .ok (.getfield 19, 3) := by decide +kernel
theorem dX8_isDigitRead_35 : decode cX8_isDigitRead 35 = .ok (.caload, 1) := by decide +kernel
theorem dX8_isDigitRead_36 : decode cX8_isDigitRead 36 = .ok (.bipush 48, 2) := by decide +kernel
theorem dX8_isDigitRead_38 : decode cX8_isDigitRead 38 = .ok (.if_icmp .lt 17, 3) := by decide +kernel
theorem dX8_isDigitRead_41 : decode cX8_isDigitRead 41 = .ok (.aload_n 0, 1) := by decide +kernel
theorem dX8_isDigitRead_42 : decode cX8_isDigitRead 42 = .ok (.getfield 9, 3) := by decide +kernel
theorem dX8_isDigitRead_45 : decode cX8_isDigitRead 45 = .ok (.aload_n 0, 1) := by decide +kernel
theorem dX8_isDigitRead_46 : decode cX8_isDigitRead 46 = .ok (.getfield 19, 3) := by decide +kernel
theorem dX8_isDigitRead_49 : decode cX8_isDigitRead 49 = .ok (.caload, 1) := by decide +kernel
theorem dX8_isDigitRead_50 : decode cX8_isDigitRead 50 = .ok (.bipush 57, 2) := by decide +kernel
theorem dX8_isDigitRead_52 : decode cX8_isDigitRead 52 = .ok (.if_icmp .le 5, 3) := by decide +kernel
theorem dX8_isDigitRead_55 : decode cX8_isDigitRead 55 = .ok (.iconst 0, 1) := by decide +kernel
theorem dX8_isDigitRead_56 : decode cX8_isDigitRead 56 = .ok (.ireturn, 1) := by decide +kernel
theorem dX8_isDigitRead_57 : decode cX8_isDigitRead 57 = .ok (.aload_n 0, 1) := by decide +kernel
theorem dX8_isDigitRead_58 : decode cX8_isDigitRead 58 = .ok (.aload_n 0, 1) := by decide +kernel
theorem dX8_isDigitRead_59 : decode cX8_isDigitRead 59 = .ok (.getfield 9, 3) := by decide +kernel
theorem dX8_isDigitRead_62 : decode cX8_isDigitRead 62 = .ok (.aload_n 0, 1) := by decide +kernel
theorem dX8_isDigitRead_63 : decode cX8_isDigitRead 63 = .ok (.getfield 19, 3) := by decide +kernel
theorem dX8_isDigitRead_66 : decode cX8_isDigitRead 66 = .ok (.caload, 1) := by decide +kernel
theorem dX8_isDigitRead_67 : decode cX8_isDigitRead 67 = .ok (.bipush 48, 2) := by decide +kernel
theorem dX8_isDigitRead_69 : decode cX8_isDigitRead 69 = .ok (.isub, 1) := by decide +kernel
theorem dX8_isDigitRead_70 : decode cX8_isDigitRead 70 = .ok (.putfield 77, 3) := by decide +kernel
theorem dX8_isDigitRead_73 : decode cX8_isDigitRead 73 = .ok (.aload_n 0, 1) := by decide +kernel
theorem dX8_isDigitRead_74 : decode cX8_isDigitRead 74 = .ok (.dup, 1) := by decide +kernel
theorem dX8_isDigitRead_75 : decode cX8_isDigitRead 75 = .ok (.getfield 19, 3) := by decide +kernel
theorem dX8_isDigitRead_78 : decode cX8_isDigitRead 78 = .ok (.iconst 1, 1) := by decide +kernel
theorem dX8_isDigitRead_79 : decode cX8_isDigitRead 79 = .ok (.iadd, 1) := by decide +kernel
theorem dX8_isDigitRead_80 : decode cX8_isDigitRead 80 = .ok (.putfield 19, 3) := by decide +kernel
theorem dX8_isDigitRead_83 : decode cX8_isDigitRead 83 = .ok (.iconst 1, 1) := by decide +kernel
theorem dX8_isDigitRead_84 : decode cX8_isDigitRead 84 = .ok (.ireturn, 1) := by decide +kernel
set_option maxRecDepth 20000 in
theorem ggX8_areDigitsRead_X8_isDigitRead : GoodIn wsX8_areDigitsRead wsX8_isDigitRead := goodIn_r _ [6, 7, 8, 9, 1, 10, 11, 12, 13, 14, 15, 16, 17] (by decide +kernel) (by decide +kernel)
set_option maxRecDepth 20000 in
theorem gX8_areDigitsRead_X8_isDigitRead : GoodIn wsX8_areDigitsRead (wsV RX8 74 RX8 yX8_isDigitRead wsX8_isDigitRead) := goodIn_app (goodIn_of _ (by decide +kernel)) ggX8_areDigitsRead_X8_isDigitRead
theorem dX8_areDigitsRead_0 : decode cX8_areDigitsRead 0 = .ok (.aload_n 0, 1) := by decide +kernel
theorem dX8_areDigitsRead_1 : decode cX8_areDigitsRead 1 = .ok (.invokevirtual 74, 3) := by decide +kernel
theorem dX8_areDigitsRead_4 : decode cX8_areDigitsRead 4 = .ok (.ifCond .ne 5, 3) := by decide +kernel
theorem dX8_areDigitsRead_7 : decode cX8_areDigitsRead 7 = .ok (.iconst 0, 1) := by decide +kernel
theorem dX8_areDigitsRead_8 : decode cX8_areDigitsRead 8 = .ok (.ireturn, 1) := by decide +kernel
theorem dX8_areDigitsRead_9 : decode cX8_areDigitsRead 9 = .ok (.aload_n 0, 1) := by decide +kernel
theorem dX8_areDigitsRead_10 : decode cX8_areDigitsRead 10 = .ok (.getfield 77, 3) := by decide +kernel
theorem dX8_areDigitsRead_13 : decode cX8_areDigitsRead 13 = .ok (.istore_n 1, 1) := by decide +kernel
theorem dX8_areDigitsRead_14 : decode cX8_areDigitsRead 14 = .ok (.aload_n 0, 1) := by decide +kernel
theorem dX8_areDigitsRead_15 : decode cX8_areDigitsRead 15 = .ok (.invokevirtual 74, 3) := by decide +kernel
theorem dX8_areDigitsRead_18 : decode cX8_areDigitsRead 18 = .ok (.ifCond .eq 16, 3) := by decide +kernel
theorem dX8_areDigitsRead_21 : decode cX8_areDigitsRead 21 = .ok (.aload_n 0, 1) := by decide +kernel
theorem dX8_areDigitsRead_22 : decode cX8_areDigitsRead 22 = .ok (.dup, 1) := by decide +kernel
theorem dX8_areDigitsRead_23 : decode cX8_areDigitsRead 23 = .ok (.getfield 77, 3) := by decide +kernel
theorem dX8_areDigitsRead_26 : decode cX8_areDigitsRead 26 = .ok (.bipush 10, 2) := by decide +kernel
theorem dX8_areDigitsRead_28 : decode cX8_areDigitsRead 28 = .ok (.iload_n 1, 1) := by decide +kernel
theorem dX8_areDigitsRead_29 : decode cX8_areDigitsRead 29 = .ok (.imul, 1) := by decide +kernel
theorem dX8_areDigitsRead_30 : decode cX8_areDigitsRead 30 = .ok (.iadd, 1) := by decide +kernel
theorem dX8_areDigitsRead_31 : decode cX8_areDigitsRead 31 = .ok (.putfield 77, 3) := by decide +kernel
theorem dX8_areDigitsRead_34 : decode cX8_areDigitsRead 34 = .ok (.iconst 1, 1) := by decide +kernel
theorem dX8_areDigitsRead_35 : decode cX8_areDigitsRead 35 = .ok (.ireturn, 1) := by decide +kernel
set_option maxRecDepth 20000 in
theorem ggX9_init_X2_init : GoodIn wsX9_init wsX2_init := goodIn_r _ [35, 36, 2, 3, 37, 38, 39, 40, 41, 42, 43, 44, 45, 46, 77, 78, 79, 80, 81, 82, 83, 84, 85, 86] (by decide +kernel) (by decide +kernel)
set_option maxRecDepth 20000 in
theorem gX9_init_X2_init : GoodIn wsX9_init (wsX2_init) := ggX9_init_X2_init
set_option maxRecDepth 20000 in
theorem ggX9_init_X4_init : GoodIn wsX9_init wsX4_init := goodIn_r _ [49, 50, 2, 3, 51, 52, 5, 6, 53, 34, 35, 36, 37, 38, 39, 40, 41, 42, 43, 44, 45, 46, 96, 97, 98, 77, 78, 79, 80, 81, 82, 83, 84, 85, 86] (by decide +kernel) (by decide +kernel)
set_option maxRecDepth 20000 in
theorem gX9_init_X4_init : GoodIn wsX9_init (wsX4_init) := ggX9_init_X4_init
set_option maxRecDepth 20000 in
theorem ggX9_init_X0_init : GoodIn wsX9_init wsX0_init := goodIn_r _ [55, 56, 2, 3, 37, 57, 99] (by decide +kernel) (by decide +kernel)
set_option maxRecDepth 20000 in
theorem gX9_init_X0_init_n28 : GoodIn wsX9_init (wsX0_init) := ggX9_init_X0_init
set_option maxRecDepth 20000 in
theorem ggX9_init_X1_init : GoodIn wsX9_init wsX1_init := goodIn_r _ [59, 60, 2, 3, 61, 62, 100] (by decide +kernel) (by decide +kernel)
set_option maxRecDepth 20000 in
theorem gX9_init_X1_init_n35 : GoodIn wsX9_init (wsX1_init) := ggX9_init_X1_init
set_option maxRecDepth 20000 in
theorem ggX9_init_X8_init : GoodIn wsX9_init wsX8_init := goodIn_r _ [64, 65, 2, 3, 66, 67, 101, 102, 103, 104, 105, 106, 107, 108] (by decide +kernel) (by decide +kernel)
set_option maxRecDepth 20000 in
theorem gX9_init_X8_init_n42 : GoodIn wsX9_init (wsX8_init) := ggX9_init_X8_init
set_option maxRecDepth 20000 in
theorem ggX9_init_X3_init : GoodIn wsX9_init wsX3_init := goodIn_r _ [69, 70, 2, 3, 66, 71, 109, 110] (by decide +kernel) (by decide +kernel)
set_option maxRecDepth 20000 in
theorem gX9_init_X3_init_n49 : GoodIn wsX9_init (wsX3_init) := ggX9_init_X3_init
set_option maxRecDepth 20000 in
theorem ggX9_init_X6_init : GoodIn wsX9_init wsX6_init := goodIn_r _ [73, 74, 2, 3, 37, 75, 76, 111, 112, 113] (by decide +kernel) (by decide +kernel)
set_option maxRecDepth 20000 in
theorem gX9_init_X6_init_n56 : GoodIn wsX9_init (wsX6_init) := ggX9_init_X6_init
theorem dX9_init_0 : decode cX9_init 0 = .ok (.aload_n 0, 1) := by decide +kernel
theorem dX9_init_1 : decode cX9_init 1 = .ok (.invokespecial 1, 3) := by decide +kernel
theorem dX9_init_4 : decode cX9_init 4 = .ok (.aload_n 0, 1) := by decide +kernel
theorem dX9_init_5 : decode cX9_init 5 = .ok (.new 7, 3) := by decide +kernel
theorem dX9_init_8 : decode cX9_init 8 = .ok (.dup, 1) := by decide +kernel
theorem dX9_init_9 : decode cX9_init 9 = .ok (.invokespecial 9, 3) := by decide +kernel
theorem dX9_init_12 : decode cX9_init 12 = .ok (.putfield 10, 3) := by decide +kernel
theorem dX9_init_15 : decode cX9_init 15 = .ok (.aload_n 0, 1) := by decide +kernel
theorem dX9_init_16 : decode cX9_init 16 = .ok (.new 7, 3) := by decide +kernel
theorem dX9_init_19 : decode cX9_init 19 = .ok (.dup, 1) := by decide +kernel
theorem dX9_init_20 : decode cX9_init 20 = .ok (.invokespecial 9, 3) := by decide +kernel
theorem dX9_init_23 : decode cX9_init 23 = .ok (.putfield 16, 3) := by decide +kernel
theorem dX9_init_26 : decode cX9_init 26 = .ok (.aload_n 0, 1) := by decide +kernel
theorem dX9_init_27 : decode cX9_init 27 = .ok (.new 19, 3) := by decide +kernel
theorem dX9_init_30 : decode cX9_init 30 = .ok (.dup, 1) := by decide +kernel
theorem dX9_init_31 : decode cX9_init 31 = .ok (.invokespecial 21, 3) := by decide +kernel
theorem dX9_init_34 : decode cX9_init 34 = .ok (.putfield 22, 3) := by decide +kernel
theorem dX9_init_37 : decode cX9_init 37 = .ok (.aload_n 0, 1) := by decide +kernel
theorem dX9_init_38 : decode cX9_init 38 = .ok (.new 26, 3) := by decide +kernel
theorem dX9_init_41 : decode cX9_init 41 = .ok (.dup, 1) := by decide +kernel
theorem dX9_init_42 : decode cX9_init 42 = .ok (.invokespecial 28, 3) := by decide +kernel
theorem dX9_init_45 : decode cX9_init 45 = .ok (.putfield 29, 3) := by decide +kernel
theorem dX9_init_48 : decode cX9_init 48 = .ok (.aload_n 0, 1) := by decide +kernel
theorem dX9_init_49 : decode cX9_init 49 = .ok (.new 33, 3) := by decide +kernel
theorem dX9_init_52 : decode cX9_init 52 = .ok (.dup, 1) := by decide +kernel
theorem dX9_init_53 : decode cX9_init 53 = .ok (.invokespecial 35, 3) := by decide +kernel
theorem dX9_init_56 : decode cX9_init 56 = .ok (.putfield 36, 3) := by decide +kernel
theorem dX9_init_59 : decode cX9_init 59 = .ok (.aload_n 0, 1) := by decide +kernel
theorem dX9_init_60 : decode cX9_init 60 = .ok (.new 40, 3) := by decide +kernel
theorem dX9_init_63 : decode cX9_init 63 = .ok (.dup, 1) := by decide +kernel
theorem dX9_init_64 : decode cX9_init 64 = .ok (.invokespecial 42, 3) := by decide +kernel
theorem dX9_init_67 : decode cX9_init 67 = .ok (.putfield 43, 3) := by decide +kernel
theorem dX9_init_70 : decode cX9_init 70 = .ok (.aload_n 0, 1) := by decide +kernel
theorem dX9_init_71 : decode cX9_init 71 = .ok (.new 47, 3) := by decide +kernel
theorem dX9_init_74 : decode cX9_init 74 = .ok (.dup, 1) := by decide +kernel
theorem dX9_init_75 : decode cX9_init 75 = .ok (.invokespecial 49, 3) := by decide +kernel
theorem dX9_init_78 : decode cX9_init 78 = .ok (.putfield 50, 3) := by decide +kernel
theorem dX9_init_81 : decode cX9_init 81 = .ok (.aload_n 0, 1) := by decide +kernel
theorem dX9_init_82 : decode cX9_init 82 = .ok (.new 54, 3) := by decide +kernel
theorem dX9_init_85 : decode cX9_init 85 = .ok (.dup, 1) := by decide +kernel
theorem dX9_init_86 : decode cX9_init 86 = .ok (.invokespecial 56, 3) := by decide +kernel
theorem dX9_init_89 : decode cX9_init 89 = .ok (.putfield 57, 3) := by decide +kernel
theorem dX9_init_92 : decode cX9_init 92 = .ok (.return_, 1) := by decide +kernel
set_option maxRecDepth 20000 in
theorem ggX9_hang_X4_hold : GoodIn wsX9_hang wsX4_hold := goodIn_r _ [7, 8, 9, 10, 6, 11, 12, 13, 14, 15, 16, 17, 18, 19, 20, 21, 22, 23, 24, 25, 26, 27, 28, 29, 30, 31, 32, 77, 78, 79, 80, 81, 82, 83, 84, 85, 86, 87, 88, 89] (by decide +kernel) (by decide +kernel)
set_option maxRecDepth 20000 in
theorem gX9_hang_X4_hold : GoodIn wsX9_hang (wsV RX9 61 RX4 yX4_hold wsX4_hold) := goodIn_app (goodIn_of _ (by decide +kernel)) ggX9_hang_X4_hold
set_option maxRecDepth 20000 in
theorem ggX9_hang_X9_hangUp : GoodIn wsX9_hang wsX9_hangUp := goodIn_r _ [37, 2, 38, 39, 40, 17, 41, 19, 20, 25, 42, 43, 44, 36, 45, 46, 47, 48, 49, 50, 51, 52, 53, 54, 68, 69, 70, 71, 72, 73, 74, 75, 76, 80, 81, 82, 83, 84, 85, 86, 87, 88, 89, 90, 91, 92] (by decide +kernel) (by decide +kernel)
set_option maxRecDepth 20000 in
theorem gX9_hang_X9_hangUp : GoodIn wsX9_hang (wsV RX9 65 RX9 yX9_hangUp wsX9_hangUp) := goodIn_app (goodIn_of _ (by decide +kernel)) ggX9_hang_X9_hangUp
set_option maxRecDepth 20000 in
theorem ggX9_hang_X9_kept : GoodIn wsX9_hang wsX9_kept := goodIn_r _ [58, 1, 59, 60, 61, 6, 62, 12, 63, 64, 65, 66, 67, 68, 69, 70, 71, 72, 73, 74, 75, 76, 77, 78, 79] (by decide +kernel) (by decide +kernel)
set_option maxRecDepth 20000 in
theorem gX9_hang_X9_kept : GoodIn wsX9_hang (wsV RX9 69 RX9 yX9_kept wsX9_kept) := goodIn_app (goodIn_of _ (by decide +kernel)) ggX9_hang_X9_kept
theorem dX9_hang_0 : decode cX9_hang 0 = .ok (.aload_n 0, 1) := by decide +kernel
theorem dX9_hang_1 : decode cX9_hang 1 = .ok (.getfield 22, 3) := by decide +kernel
theorem dX9_hang_4 : decode cX9_hang 4 = .ok (.aload_n 0, 1) := by decide +kernel
theorem dX9_hang_5 : decode cX9_hang 5 = .ok (.getfield 10, 3) := by decide +kernel
theorem dX9_hang_8 : decode cX9_hang 8 = .ok (.invokevirtual 61, 3) := by decide +kernel
theorem dX9_hang_11 : decode cX9_hang 11 = .ok (.aload_n 0, 1) := by decide +kernel
theorem dX9_hang_12 : decode cX9_hang 12 = .ok (.aload_n 0, 1) := by decide +kernel
theorem dX9_hang_13 : decode cX9_hang 13 = .ok (.iload_n 1, 1) := by decide +kernel
theorem dX9_hang_14 : decode cX9_hang 14 = .ok (.iload_n 2, 1) := by decide +kernel
theorem dX9_hang_15 : decode cX9_hang 15 = .ok (.invokevirtual 65, 3) := by decide +kernel
theorem dX9_hang_18 : decode cX9_hang 18 = .ok (.invokevirtual 69, 3) := by decide +kernel
theorem dX9_hang_21 : decode cX9_hang 21 = .ok (.ireturn, 1) := by decide +kernel
set_option maxRecDepth 20000 in
theorem ggX9_wire_X4_hold : GoodIn wsX9_wire wsX4_hold := goodIn_r _ [7, 8, 9, 10, 6, 11, 12, 13, 14, 15, 16, 17, 18, 19, 20, 21, 22, 23, 24, 25, 26, 27, 28, 29, 30, 31, 32, 134, 135, 136, 137, 138, 139, 140, 141, 142, 143, 144, 145, 146] (by decide +kernel) (by decide +kernel)
set_option maxRecDepth 20000 in
theorem gX9_wire_X4_hold : GoodIn wsX9_wire (wsV RX9 61 RX4 yX4_hold wsX4_hold) := goodIn_app (goodIn_of _ (by decide +kernel)) ggX9_wire_X4_hold
set_option maxRecDepth 20000 in
theorem ggX9_wire_X9_putWire : GoodIn wsX9_wire wsX9_putWire := goodIn_r _ [37, 2, 38, 39, 40, 41, 17, 42, 19, 43, 44, 36, 45, 46, 47, 48, 49, 50, 51, 52, 53, 20, 54, 55, 56, 57, 58, 59, 60, 61, 62, 63, 64, 65, 66, 67, 68, 69, 70, 71, 72, 73, 74, 75, 76, 77, 26, 78, 79, 80, 81, 29, 82, 83, 84, 85, 86, 87, 88, 89, 90, 91, 92, 93, 94, 95, 96, 97, 98, 99, 100, 101, 102, 103, 104, 105, 106, 107, 108, 109, 110, 111, 125, 126, 127, 128, 129, 130, 131, 132, 133, 137, 138, 139, 140, 141, 142, 143, 144, 145, 146, 147, 148, 149] (by decide +kernel) (by decide +kernel)
set_option maxRecDepth 20000 in
theorem gX9_wire_X9_putWire : GoodIn wsX9_wire (wsV RX9 73 RX9 yX9_putWire wsX9_putWire) := goodIn_app (goodIn_of _ (by decide +kernel)) ggX9_wire_X9_putWire
set_option maxRecDepth 20000 in
theorem ggX9_wire_X9_kept : GoodIn wsX9_wire wsX9_kept := goodIn_r _ [115, 1, 116, 117, 118, 6, 119, 12, 120, 121, 122, 123, 124, 125, 126, 127, 128, 129, 130, 131, 132, 133, 134, 135, 136] (by decide +kernel) (by decide +kernel)
set_option maxRecDepth 20000 in
theorem gX9_wire_X9_kept : GoodIn wsX9_wire (wsV RX9 69 RX9 yX9_kept wsX9_kept) := goodIn_app (goodIn_of _ (by decide +kernel)) ggX9_wire_X9_kept
theorem dX9_wire_0 : decode cX9_wire 0 = .ok (.aload_n 0, 1) := by decide +kernel
theorem dX9_wire_1 : decode cX9_wire 1 = .ok (.getfield 22, 3) := by decide +kernel
theorem dX9_wire_4 : decode cX9_wire 4 = .ok (.aload_n 0, 1) := by decide +kernel
theorem dX9_wire_5 : decode cX9_wire 5 = .ok (.getfield 10, 3) := by decide +kernel
theorem dX9_wire_8 : decode cX9_wire 8 = .ok (.invokevirtual 61, 3) := by decide +kernel
theorem dX9_wire_11 : decode cX9_wire 11 = .ok (.aload_n 0, 1) := by decide +kernel
theorem dX9_wire_12 : decode cX9_wire 12 = .ok (.aload_n 0, 1) := by decide +kernel
theorem dX9_wire_13 : decode cX9_wire 13 = .ok (.iload_n 1, 1) := by decide +kernel
theorem dX9_wire_14 : decode cX9_wire 14 = .ok (.iload_n 2, 1) := by decide +kernel
theorem dX9_wire_15 : decode cX9_wire 15 = .ok (.iload_n 3, 1) := by decide +kernel
theorem dX9_wire_16 : decode cX9_wire 16 = .ok (.invokevirtual 73, 3) := by decide +kernel
theorem dX9_wire_19 : decode cX9_wire 19 = .ok (.invokevirtual 69, 3) := by decide +kernel
theorem dX9_wire_22 : decode cX9_wire 22 = .ok (.ireturn, 1) := by decide +kernel
set_option maxRecDepth 20000 in
theorem ggX9_cut_X4_hold : GoodIn wsX9_cut wsX4_hold := goodIn_r _ [7, 8, 9, 10, 6, 11, 12, 13, 14, 15, 16, 17, 18, 19, 20, 21, 22, 23, 24, 25, 26, 27, 28, 29, 30, 31, 32, 104, 105, 106, 107, 108, 109, 110, 111, 112, 113, 114, 115, 116] (by decide +kernel) (by decide +kernel)
set_option maxRecDepth 20000 in
theorem gX9_cut_X4_hold : GoodIn wsX9_cut (wsV RX9 61 RX4 yX4_hold wsX4_hold) := goodIn_app (goodIn_of _ (by decide +kernel)) ggX9_cut_X4_hold
set_option maxRecDepth 20000 in
theorem ggX9_cut_X9_cutWire : GoodIn wsX9_cut wsX9_cutWire := goodIn_r _ [37, 2, 38, 39, 40, 17, 41, 19, 42, 43, 36, 44, 45, 46, 47, 48, 49, 50, 51, 52, 20, 53, 54, 55, 56, 57, 58, 59, 60, 61, 62, 63, 64, 65, 66, 67, 68, 69, 70, 71, 72, 73, 74, 75, 76, 77, 26, 78, 79, 80, 81, 95, 96, 97, 98, 99, 100, 101, 102, 103, 107, 108, 109, 110, 111, 112, 113, 114, 115, 116, 117, 118, 119] (by decide +kernel) (by decide +kernel)
set_option maxRecDepth 20000 in
theorem gX9_cut_X9_cutWire : GoodIn wsX9_cut (wsV RX9 77 RX9 yX9_cutWire wsX9_cutWire) := goodIn_app (goodIn_of _ (by decide +kernel)) ggX9_cut_X9_cutWire
set_option maxRecDepth 20000 in
theorem ggX9_cut_X9_kept : GoodIn wsX9_cut wsX9_kept := goodIn_r _ [85, 1, 86, 87, 88, 6, 89, 12, 90, 91, 92, 93, 94, 95, 96, 97, 98, 99, 100, 101, 102, 103, 104, 105, 106] (by decide +kernel) (by decide +kernel)
set_option maxRecDepth 20000 in
theorem gX9_cut_X9_kept : GoodIn wsX9_cut (wsV RX9 69 RX9 yX9_kept wsX9_kept) := goodIn_app (goodIn_of _ (by decide +kernel)) ggX9_cut_X9_kept
theorem dX9_cut_0 : decode cX9_cut 0 = .ok (.aload_n 0, 1) := by decide +kernel
theorem dX9_cut_1 : decode cX9_cut 1 = .ok (.getfield 22, 3) := by decide +kernel
theorem dX9_cut_4 : decode cX9_cut 4 = .ok (.aload_n 0, 1) := by decide +kernel
theorem dX9_cut_5 : decode cX9_cut 5 = .ok (.getfield 10, 3) := by decide +kernel
theorem dX9_cut_8 : decode cX9_cut 8 = .ok (.invokevirtual 61, 3) := by decide +kernel
theorem dX9_cut_11 : decode cX9_cut 11 = .ok (.aload_n 0, 1) := by decide +kernel
theorem dX9_cut_12 : decode cX9_cut 12 = .ok (.aload_n 0, 1) := by decide +kernel
theorem dX9_cut_13 : decode cX9_cut 13 = .ok (.iload_n 1, 1) := by decide +kernel
theorem dX9_cut_14 : decode cX9_cut 14 = .ok (.iload_n 2, 1) := by decide +kernel
theorem dX9_cut_15 : decode cX9_cut 15 = .ok (.invokevirtual 77, 3) := by decide +kernel
theorem dX9_cut_18 : decode cX9_cut 18 = .ok (.invokevirtual 69, 3) := by decide +kernel
theorem dX9_cut_21 : decode cX9_cut 21 = .ok (.ireturn, 1) := by decide +kernel
set_option maxRecDepth 20000 in
theorem ggX9_set_X4_hold : GoodIn wsX9_set wsX4_hold := goodIn_r _ [7, 8, 9, 10, 6, 11, 12, 13, 14, 15, 16, 17, 18, 19, 20, 21, 22, 23, 24, 25, 26, 27, 28, 29, 30, 31, 32, 112, 113, 114, 115, 116, 117, 118, 119, 120, 121, 122, 123, 124] (by decide +kernel) (by decide +kernel)
set_option maxRecDepth 20000 in
theorem gX9_set_X4_hold : GoodIn wsX9_set (wsV RX9 61 RX4 yX4_hold wsX4_hold) := goodIn_app (goodIn_of _ (by decide +kernel)) ggX9_set_X4_hold
set_option maxRecDepth 20000 in
theorem ggX9_set_X9_setSwitch : GoodIn wsX9_set wsX9_setSwitch := goodIn_r _ [37, 2, 38, 39, 40, 17, 41, 19, 42, 43, 44, 45, 20, 46, 47, 48, 49, 50, 51, 52, 53, 36, 54, 55, 56, 57, 58, 59, 60, 61, 62, 63, 64, 65, 66, 67, 68, 69, 70, 71, 28, 72, 73, 74, 75, 76, 77, 78, 79, 80, 81, 27, 32, 82, 83, 84, 85, 86, 87, 88, 89, 103, 104, 105, 106, 107, 108, 109, 110, 111, 115, 116, 117, 118, 119, 120, 121, 122, 123, 124, 125, 126, 127] (by decide +kernel) (by decide +kernel)
set_option maxRecDepth 20000 in
theorem gX9_set_X9_setSwitch : GoodIn wsX9_set (wsV RX9 80 RX9 yX9_setSwitch wsX9_setSwitch) := goodIn_app (goodIn_of _ (by decide +kernel)) ggX9_set_X9_setSwitch
set_option maxRecDepth 20000 in
theorem ggX9_set_X9_kept : GoodIn wsX9_set wsX9_kept := goodIn_r _ [93, 1, 94, 95, 96, 6, 97, 12, 98, 99, 100, 101, 102, 103, 104, 105, 106, 107, 108, 109, 110, 111, 112, 113, 114] (by decide +kernel) (by decide +kernel)
set_option maxRecDepth 20000 in
theorem gX9_set_X9_kept : GoodIn wsX9_set (wsV RX9 69 RX9 yX9_kept wsX9_kept) := goodIn_app (goodIn_of _ (by decide +kernel)) ggX9_set_X9_kept
theorem dX9_set_0 : decode cX9_set 0 = .ok (.aload_n 0, 1) := by decide +kernel
theorem dX9_set_1 : decode cX9_set 1 = .ok (.getfield 22, 3) := by decide +kernel
theorem dX9_set_4 : decode cX9_set 4 = .ok (.aload_n 0, 1) := by decide +kernel
theorem dX9_set_5 : decode cX9_set 5 = .ok (.getfield 10, 3) := by decide +kernel
theorem dX9_set_8 : decode cX9_set 8 = .ok (.invokevirtual 61, 3) := by decide +kernel
theorem dX9_set_11 : decode cX9_set 11 = .ok (.aload_n 0, 1) := by decide +kernel
theorem dX9_set_12 : decode cX9_set 12 = .ok (.aload_n 0, 1) := by decide +kernel
theorem dX9_set_13 : decode cX9_set 13 = .ok (.iload_n 1, 1) := by decide +kernel
theorem dX9_set_14 : decode cX9_set 14 = .ok (.iload_n 2, 1) := by decide +kernel
theorem dX9_set_15 : decode cX9_set 15 = .ok (.invokevirtual 80, 3) := by decide +kernel
theorem dX9_set_18 : decode cX9_set 18 = .ok (.invokevirtual 69, 3) := by decide +kernel
theorem dX9_set_21 : decode cX9_set 21 = .ok (.ireturn, 1) := by decide +kernel
set_option maxRecDepth 20000 in
theorem ggX9_loops_X4_hold : GoodIn wsX9_loops wsX4_hold := goodIn_r _ [7, 8, 9, 10, 6, 11, 12, 13, 14, 15, 16, 17, 18, 19, 20, 21, 22, 23, 24, 25, 26, 27, 28, 29, 30, 31, 32, 116, 117, 118, 119, 120, 121, 122, 123, 124, 125, 126, 127, 128] (by decide +kernel) (by decide +kernel)
set_option maxRecDepth 20000 in
theorem gX9_loops_X4_hold : GoodIn wsX9_loops (wsV RX9 61 RX4 yX4_hold wsX4_hold) := goodIn_app (goodIn_of _ (by decide +kernel)) ggX9_loops_X4_hold
set_option maxRecDepth 20000 in
theorem ggX9_loops_X9_allowLoops : GoodIn wsX9_loops wsX9_allowLoops := goodIn_r _ [37, 2, 38, 39, 40, 41, 42, 43, 44, 45, 17, 46, 19, 47, 48, 49, 50, 51, 52, 53, 54, 55, 56, 26, 57, 36, 58, 59, 60, 61, 62, 63, 64, 65, 66, 67, 68, 69, 70, 71, 72, 73, 74, 75, 76, 77, 78, 79, 80, 81, 82, 83, 84, 85, 86, 87, 88, 89, 29, 90, 91, 92, 93, 107, 108, 109, 110, 111, 112, 113, 114, 115, 119, 120, 121, 122, 123, 124, 125, 126, 127, 128, 129, 130, 131] (by decide +kernel) (by decide +kernel)
set_option maxRecDepth 20000 in
theorem gX9_loops_X9_allowLoops : GoodIn wsX9_loops (wsV RX9 84 RX9 yX9_allowLoops wsX9_allowLoops) := goodIn_app (goodIn_of _ (by decide +kernel)) ggX9_loops_X9_allowLoops
set_option maxRecDepth 20000 in
theorem ggX9_loops_X9_kept : GoodIn wsX9_loops wsX9_kept := goodIn_r _ [97, 1, 98, 99, 100, 6, 101, 12, 102, 103, 104, 105, 106, 107, 108, 109, 110, 111, 112, 113, 114, 115, 116, 117, 118] (by decide +kernel) (by decide +kernel)
set_option maxRecDepth 20000 in
theorem gX9_loops_X9_kept : GoodIn wsX9_loops (wsV RX9 69 RX9 yX9_kept wsX9_kept) := goodIn_app (goodIn_of _ (by decide +kernel)) ggX9_loops_X9_kept
theorem dX9_loops_0 : decode cX9_loops 0 = .ok (.aload_n 0, 1) := by decide +kernel
theorem dX9_loops_1 : decode cX9_loops 1 = .ok (.getfield 22, 3) := by decide +kernel
theorem dX9_loops_4 : decode cX9_loops 4 = .ok (.aload_n 0, 1) := by decide +kernel
theorem dX9_loops_5 : decode cX9_loops 5 = .ok (.getfield 10, 3) := by decide +kernel
theorem dX9_loops_8 : decode cX9_loops 8 = .ok (.invokevirtual 61, 3) := by decide +kernel
theorem dX9_loops_11 : decode cX9_loops 11 = .ok (.aload_n 0, 1) := by decide +kernel
theorem dX9_loops_12 : decode cX9_loops 12 = .ok (.aload_n 0, 1) := by decide +kernel
theorem dX9_loops_13 : decode cX9_loops 13 = .ok (.iload_n 1, 1) := by decide +kernel
theorem dX9_loops_14 : decode cX9_loops 14 = .ok (.invokevirtual 84, 3) := by decide +kernel
theorem dX9_loops_17 : decode cX9_loops 17 = .ok (.invokevirtual 69, 3) := by decide +kernel
theorem dX9_loops_20 : decode cX9_loops 20 = .ok (.ireturn, 1) := by decide +kernel
set_option maxRecDepth 20000 in
theorem ggX9_tick_X4_hold : GoodIn wsX9_tick wsX4_hold := goodIn_r _ [7, 8, 9, 10, 6, 11, 12, 13, 14, 15, 16, 17, 18, 19, 20, 21, 22, 23, 24, 25, 26, 27, 28, 29, 30, 31, 32, 87, 88, 89, 90, 91, 92, 93, 94, 95, 96, 97, 98, 99] (by decide +kernel) (by decide +kernel)
set_option maxRecDepth 20000 in
theorem gX9_tick_X4_hold : GoodIn wsX9_tick (wsV RX9 61 RX4 yX4_hold wsX4_hold) := goodIn_app (goodIn_of _ (by decide +kernel)) ggX9_tick_X4_hold
set_option maxRecDepth 20000 in
theorem ggX9_tick_X9_letGoBy : GoodIn wsX9_tick wsX9_letGoBy := goodIn_r _ [37, 2, 38, 39, 40, 17, 41, 28, 27, 30, 31, 42, 43, 44, 45, 19, 20, 25, 46, 47, 48, 49, 50, 51, 52, 53, 54, 55, 56, 57, 26, 58, 59, 60, 61, 62, 63, 64, 78, 79, 80, 81, 82, 83, 84, 85, 86, 90, 91, 92, 93, 94, 95, 96, 97, 98, 99] (by decide +kernel) (by decide +kernel)
set_option maxRecDepth 20000 in
theorem gX9_tick_X9_letGoBy : GoodIn wsX9_tick (wsV RX9 88 RX9 yX9_letGoBy wsX9_letGoBy) := goodIn_app (goodIn_of _ (by decide +kernel)) ggX9_tick_X9_letGoBy
set_option maxRecDepth 20000 in
theorem ggX9_tick_X9_kept : GoodIn wsX9_tick wsX9_kept := goodIn_r _ [68, 1, 69, 70, 71, 6, 72, 12, 73, 74, 75, 76, 77, 78, 79, 80, 81, 82, 83, 84, 85, 86, 87, 88, 89] (by decide +kernel) (by decide +kernel)
set_option maxRecDepth 20000 in
theorem gX9_tick_X9_kept : GoodIn wsX9_tick (wsV RX9 69 RX9 yX9_kept wsX9_kept) := goodIn_app (goodIn_of _ (by decide +kernel)) ggX9_tick_X9_kept
theorem dX9_tick_0 : decode cX9_tick 0 = .ok (.aload_n 0, 1) := by decide +kernel
theorem dX9_tick_1 : decode cX9_tick 1 = .ok (.getfield 22, 3) := by decide +kernel
theorem dX9_tick_4 : decode cX9_tick 4 = .ok (.aload_n 0, 1) := by decide +kernel
theorem dX9_tick_5 : decode cX9_tick 5 = .ok (.getfield 10, 3) := by decide +kernel
theorem dX9_tick_8 : decode cX9_tick 8 = .ok (.invokevirtual 61, 3) := by decide +kernel
theorem dX9_tick_11 : decode cX9_tick 11 = .ok (.aload_n 0, 1) := by decide +kernel
theorem dX9_tick_12 : decode cX9_tick 12 = .ok (.aload_n 0, 1) := by decide +kernel
theorem dX9_tick_13 : decode cX9_tick 13 = .ok (.iload_n 1, 1) := by decide +kernel
theorem dX9_tick_14 : decode cX9_tick 14 = .ok (.invokevirtual 88, 3) := by decide +kernel
theorem dX9_tick_17 : decode cX9_tick 17 = .ok (.invokevirtual 69, 3) := by decide +kernel
theorem dX9_tick_20 : decode cX9_tick 20 = .ok (.ireturn, 1) := by decide +kernel
set_option maxRecDepth 20000 in
theorem ggX9_lanternOf_X2_isHung : GoodIn wsX9_lanternOf wsX2_isHung := goodIn_r _ [6, 7, 75, 76, 77, 78, 79, 80, 81, 82, 83, 84] (by decide +kernel) (by decide +kernel)
set_option maxRecDepth 20000 in
theorem gX9_lanternOf_X2_isHung : GoodIn wsX9_lanternOf (wsV RX9 91 RX2 yX2_isHung wsX2_isHung) := goodIn_app (goodIn_of _ (by decide +kernel)) ggX9_lanternOf_X2_isHung
set_option maxRecDepth 20000 in
theorem ggX9_lanternOf_X2_kindOf : GoodIn wsX9_lanternOf wsX2_kindOf := goodIn_r _ [11, 12, 13, 3, 4, 5, 6, 7, 75, 76, 77, 78, 79, 80, 81, 82, 83, 84] (by decide +kernel) (by decide +kernel)
set_option maxRecDepth 20000 in
theorem gX9_lanternOf_X2_kindOf : GoodIn wsX9_lanternOf (wsV RX9 95 RX2 yX2_kindOf wsX2_kindOf) := goodIn_app (goodIn_of _ (by decide +kernel)) ggX9_lanternOf_X2_kindOf
set_option maxRecDepth 20000 in
theorem ggX9_lanternOf_X2_wickOf : GoodIn wsX9_lanternOf wsX2_wickOf := goodIn_r _ [17, 18, 13, 3, 4, 5, 6, 7, 75, 76, 77, 78, 79, 80, 81, 82, 83, 84] (by decide +kernel) (by decide +kernel)
set_option maxRecDepth 20000 in
theorem gX9_lanternOf_X2_wickOf : GoodIn wsX9_lanternOf (wsV RX9 98 RX2 yX2_wickOf wsX2_wickOf) := goodIn_app (goodIn_of _ (by decide +kernel)) ggX9_lanternOf_X2_wickOf
set_option maxRecDepth 20000 in
theorem ggX9_lanternOf_X2_isGlowing : GoodIn wsX9_lanternOf wsX2_isGlowing := goodIn_r _ [22, 23, 24, 25, 5, 26, 27, 28, 29, 30, 31, 32, 33, 34, 75, 76, 77, 78, 79, 80, 81, 82, 83, 84] (by decide +kernel) (by decide +kernel)
set_option maxRecDepth 20000 in
theorem gX9_lanternOf_X2_isGlowing : GoodIn wsX9_lanternOf (wsV RX9 101 RX2 yX2_isGlowing wsX2_isGlowing) := goodIn_app (goodIn_of _ (by decide +kernel)) ggX9_lanternOf_X2_isGlowing
set_option maxRecDepth 20000 in
theorem ggX9_lanternOf_X2_wiresTo : GoodIn wsX9_lanternOf wsX2_wiresTo := goodIn_r _ [38, 39, 40, 41, 5, 42, 43, 75, 76, 77, 78, 79, 80, 81, 82, 83, 84] (by decide +kernel) (by decide +kernel)
set_option maxRecDepth 20000 in
theorem gX9_lanternOf_X2_wiresTo : GoodIn wsX9_lanternOf (wsV RX9 104 RX2 yX2_wiresTo wsX2_wiresTo) := goodIn_app (goodIn_of _ (by decide +kernel)) ggX9_lanternOf_X2_wiresTo
set_option maxRecDepth 20000 in
theorem ggX9_lanternOf_X2_wiresFrom : GoodIn wsX9_lanternOf wsX2_wiresFrom := goodIn_r _ [47, 43, 75, 76, 77, 78, 79, 80, 81, 82, 83, 84] (by decide +kernel) (by decide +kernel)
set_option maxRecDepth 20000 in
theorem gX9_lanternOf_X2_wiresFrom : GoodIn wsX9_lanternOf (wsV RX9 107 RX2 yX2_wiresFrom wsX2_wiresFrom) := goodIn_app (goodIn_of _ (by decide +kernel)) ggX9_lanternOf_X2_wiresFrom
set_option maxRecDepth 20000 in
theorem ggX9_lanternOf_X2_changesOf : GoodIn wsX9_lanternOf wsX2_changesOf := goodIn_r _ [51, 52, 13, 3, 4, 5, 6, 7, 75, 76, 77, 78, 79, 80, 81, 82, 83, 84] (by decide +kernel) (by decide +kernel)
set_option maxRecDepth 20000 in
theorem gX9_lanternOf_X2_changesOf : GoodIn wsX9_lanternOf (wsV RX9 110 RX2 yX2_changesOf wsX2_changesOf) := goodIn_app (goodIn_of _ (by decide +kernel)) ggX9_lanternOf_X2_changesOf
set_option maxRecDepth 20000 in
theorem ggX9_lanternOf_X2_glow : GoodIn wsX9_lanternOf wsX2_glow := goodIn_r _ [26, 27, 28, 29, 5, 30, 31, 75, 76, 77, 78, 79, 80, 81, 82, 83, 84] (by decide +kernel) (by decide +kernel)
set_option maxRecDepth 20000 in
theorem gX9_lanternOf_X2_glow : GoodIn wsX9_lanternOf (wsV RX9 113 RX2 yX2_glow wsX2_glow) := goodIn_app (goodIn_of _ (by decide +kernel)) ggX9_lanternOf_X2_glow
set_option maxRecDepth 20000 in
theorem ggX9_lanternOf_X2_isFinding : GoodIn wsX9_lanternOf wsX2_isFinding := goodIn_r _ [57, 43, 12, 75, 76, 77, 78, 79, 80, 81, 82, 83, 84] (by decide +kernel) (by decide +kernel)
set_option maxRecDepth 20000 in
theorem gX9_lanternOf_X2_isFinding : GoodIn wsX9_lanternOf (wsV RX9 117 RX2 yX2_isFinding wsX2_isFinding) := goodIn_app (goodIn_of _ (by decide +kernel)) ggX9_lanternOf_X2_isFinding
set_option maxRecDepth 20000 in
theorem ggX9_lanternOf_X2_state : GoodIn wsX9_lanternOf wsX2_state := goodIn_r _ [61, 27, 75, 76, 77, 78, 79, 80, 81, 82, 83, 84] (by decide +kernel) (by decide +kernel)
set_option maxRecDepth 20000 in
theorem gX9_lanternOf_X2_state : GoodIn wsX9_lanternOf (wsV RX9 121 RX2 yX2_state wsX2_state) := goodIn_app (goodIn_of _ (by decide +kernel)) ggX9_lanternOf_X2_state
set_option maxRecDepth 20000 in
theorem ggX9_lanternOf_X2_foundIn : GoodIn wsX9_lanternOf wsX2_foundIn := goodIn_r _ [64, 65] (by decide +kernel) (by decide +kernel)
set_option maxRecDepth 20000 in
theorem gX9_lanternOf_X2_foundIn : GoodIn wsX9_lanternOf (va_wsS RX9 125 yX2_foundIn wsX2_foundIn) := goodIn_app (goodIn_of _ (by decide +kernel)) ggX9_lanternOf_X2_foundIn
theorem dX9_lanternOf_0 : decode cX9_lanternOf 0 = .ok (.aload_n 0, 1) := by decide +kernel
theorem dX9_lanternOf_1 : decode cX9_lanternOf 1 = .ok (.getfield 10, 3) := by decide +kernel
theorem dX9_lanternOf_4 : decode cX9_lanternOf 4 = .ok (.iload_n 1, 1) := by decide +kernel
theorem dX9_lanternOf_5 : decode cX9_lanternOf 5 = .ok (.invokevirtual 91, 3) := by decide +kernel
theorem dX9_lanternOf_8 : decode cX9_lanternOf 8 = .ok (.ifCond .ne 6, 3) := by decide +kernel
theorem dX9_lanternOf_11 : decode cX9_lanternOf 11 = .ok (.bipush (-11), 2) := by decide +kernel
theorem dX9_lanternOf_13 : decode cX9_lanternOf 13 = .ok (.ireturn, 1) := by decide +kernel
theorem dX9_lanternOf_14 : decode cX9_lanternOf 14 = .ok (.iload_n 2, 1) := by decide +kernel
theorem dX9_lanternOf_15 : decode cX9_lanternOf 15 = .ok (.tableswitch 143 0 7 #[45, 54, 63, 80, 89, 98, 107, 131], 45) := by decide +kernel
theorem dX9_lanternOf_60 : decode cX9_lanternOf 60 = .ok (.aload_n 0, 1) := by decide +kernel
theorem dX9_lanternOf_61 : decode cX9_lanternOf 61 = .ok (.getfield 10, 3) := by decide +kernel
theorem dX9_lanternOf_64 : decode cX9_lanternOf 64 = .ok (.iload_n 1, 1) := by decide +kernel
theorem dX9_lanternOf_65 : decode cX9_lanternOf 65 = .ok (.invokevirtual 95, 3) := by decide +kernel
theorem dX9_lanternOf_68 : decode cX9_lanternOf 68 = .ok (.ireturn, 1) := by decide +kernel
theorem dX9_lanternOf_69 : decode cX9_lanternOf 69 = .ok (.aload_n 0, 1) := by decide +kernel
theorem dX9_lanternOf_70 : decode cX9_lanternOf 70 = .ok (.getfield 10, 3) := by decide +kernel
theorem dX9_lanternOf_73 : decode cX9_lanternOf 73 = .ok (.iload_n 1, 1) := by decide +kernel
theorem dX9_lanternOf_74 : decode cX9_lanternOf 74 = .ok (.invokevirtual 98, 3) := by decide +kernel
theorem dX9_lanternOf_77 : decode cX9_lanternOf 77 = .ok (.ireturn, 1) := by decide +kernel
theorem dX9_lanternOf_78 : decode cX9_lanternOf 78 = .ok (.aload_n 0, 1) := by decide +kernel
theorem dX9_lanternOf_79 : decode cX9_lanternOf 79 = .ok (.getfield 10, 3) := by decide +kernel
theorem dX9_lanternOf_82 : decode cX9_lanternOf 82 = .ok (.iload_n 1, 1) := by decide +kernel
theorem dX9_lanternOf_83 : decode cX9_lanternOf 83 = .ok (.invokevirtual 101, 3) := by decide +kernel
theorem dX9_lanternOf_86 : decode cX9_lanternOf 86 = .ok (.ifCond .eq 7, 3) := by decide +kernel
theorem dX9_lanternOf_89 : decode cX9_lanternOf 89 = .ok (.iconst 1, 1) := by decide +kernel
theorem dX9_lanternOf_90 : decode cX9_lanternOf 90 = .ok (.goto 4, 3) := by decide +kernel
theorem dX9_lanternOf_93 : decode cX9_lanternOf 93 = .ok (.iconst 0, 1) := by decide +kernel
theorem dX9_lanternOf_94 : decode cX9_lanternOf 94 = .ok (.ireturn, 1) := by decide +kernel
theorem dX9_lanternOf_95 : decode cX9_lanternOf 95 = .ok (.aload_n 0, 1) := by decide +kernel
theorem dX9_lanternOf_96 : decode cX9_lanternOf 96 = .ok (.getfield 10, 3) := by decide +kernel
theorem dX9_lanternOf_99 : decode cX9_lanternOf 99 = .ok (.iload_n 1, 1) := by decide +kernel
theorem dX9_lanternOf_100 : decode cX9_lanternOf 100 = .ok (.invokevirtual 104, 3) := by decide +kernel
theorem dX9_lanternOf_103 : decode cX9_lanternOf 103 = .ok (.ireturn, 1) := by decide +kernel
theorem dX9_lanternOf_104 : decode cX9_lanternOf 104 = .ok (.aload_n 0, 1) := by decide +kernel
theorem dX9_lanternOf_105 : decode cX9_lanternOf 105 = .ok (.getfield 10, 3) := by decide +kernel
theorem dX9_lanternOf_108 : decode cX9_lanternOf 108 = .ok (.iload_n 1, 1) := by decide +kernel
theorem dX9_lanternOf_109 : decode cX9_lanternOf 109 = .ok (.invokevirtual 107, 3) := by decide +kernel
theorem dX9_lanternOf_112 : decode cX9_lanternOf 112 = .ok (.ireturn, 1) := by decide +kernel
theorem dX9_lanternOf_113 : decode cX9_lanternOf 113 = .ok (.aload_n 0, 1) := by decide +kernel
theorem dX9_lanternOf_114 : decode cX9_lanternOf 114 = .ok (.getfield 10, 3) := by decide +kernel
theorem dX9_lanternOf_117 : decode cX9_lanternOf 117 = .ok (.iload_n 1, 1) := by decide +kernel
theorem dX9_lanternOf_118 : decode cX9_lanternOf 118 = .ok (.invokevirtual 110, 3) := by decide +kernel
theorem dX9_lanternOf_121 : decode cX9_lanternOf 121 = .ok (.ireturn, 1) := by decide +kernel
theorem dX9_lanternOf_122 : decode cX9_lanternOf 122 = .ok (.aload_n 0, 1) := by decide +kernel
theorem dX9_lanternOf_123 : decode cX9_lanternOf 123 = .ok (.getfield 10, 3) := by decide +kernel
theorem dX9_lanternOf_126 : decode cX9_lanternOf 126 = .ok (.iload_n 1, 1) := by decide +kernel
theorem dX9_lanternOf_127 : decode cX9_lanternOf 127 = .ok (.aload_n 0, 1) := by decide +kernel
theorem dX9_lanternOf_128 : decode cX9_lanternOf 128 = .ok (.getfield 10, 3) := by decide +kernel
theorem dX9_lanternOf_131 : decode cX9_lanternOf 131 = .ok (.invokevirtual 113, 3) := by decide +kernel
theorem dX9_lanternOf_134 : decode cX9_lanternOf 134 = .ok (.invokevirtual 117, 3) := by decide +kernel
theorem dX9_lanternOf_137 : decode cX9_lanternOf 137 = .ok (.ifCond .eq 7, 3) := by decide +kernel
theorem dX9_lanternOf_140 : decode cX9_lanternOf 140 = .ok (.iconst 1, 1) := by decide +kernel
theorem dX9_lanternOf_141 : decode cX9_lanternOf 141 = .ok (.goto 4, 3) := by decide +kernel
theorem dX9_lanternOf_144 : decode cX9_lanternOf 144 = .ok (.iconst 0, 1) := by decide +kernel
theorem dX9_lanternOf_145 : decode cX9_lanternOf 145 = .ok (.ireturn, 1) := by decide +kernel
theorem dX9_lanternOf_146 : decode cX9_lanternOf 146 = .ok (.aload_n 0, 1) := by decide +kernel
theorem dX9_lanternOf_147 : decode cX9_lanternOf 147 = .ok (.getfield 10, 3) := by decide +kernel
theorem dX9_lanternOf_150 : decode cX9_lanternOf 150 = .ok (.invokevirtual 121, 3) := by decide +kernel
theorem dX9_lanternOf_153 : decode cX9_lanternOf 153 = .ok (.iload_n 1, 1) := by decide +kernel
theorem dX9_lanternOf_154 : decode cX9_lanternOf 154 = .ok (.invokestatic 125, 3) := by decide +kernel
theorem dX9_lanternOf_157 : decode cX9_lanternOf 157 = .ok (.ireturn, 1) := by decide +kernel
theorem dX9_lanternOf_158 : decode cX9_lanternOf 158 = .ok (.bipush (-12), 2) := by decide +kernel
theorem dX9_lanternOf_160 : decode cX9_lanternOf 160 = .ok (.ireturn, 1) := by decide +kernel
set_option maxRecDepth 20000 in
theorem ggX9_wireOf_X2_isHung : GoodIn wsX9_wireOf wsX2_isHung := goodIn_r _ [6, 7, 26, 27, 28, 29, 30, 31, 32, 33, 34, 35] (by decide +kernel) (by decide +kernel)
set_option maxRecDepth 20000 in
theorem gX9_wireOf_X2_isHung : GoodIn wsX9_wireOf (wsV RX9 91 RX2 yX2_isHung wsX2_isHung) := goodIn_app (goodIn_of _ (by decide +kernel)) ggX9_wireOf_X2_isHung
set_option maxRecDepth 20000 in
theorem ggX9_wireOf_X9_isPlace : GoodIn wsX9_wireOf wsX9_isPlace := goodIn_r _ [11] (by decide +kernel) (by decide +kernel)
set_option maxRecDepth 20000 in
theorem gX9_wireOf_X9_isPlace : GoodIn wsX9_wireOf (va_wsS RX9 129 yX9_isPlace wsX9_isPlace) := goodIn_app (goodIn_of _ (by decide +kernel)) ggX9_wireOf_X9_isPlace
set_option maxRecDepth 20000 in
theorem ggX9_wireOf_X2_sourceOf : GoodIn wsX9_wireOf wsX2_sourceOf := goodIn_r _ [15, 16, 26, 27, 28, 29, 30, 31, 32, 33, 34, 35] (by decide +kernel) (by decide +kernel)
set_option maxRecDepth 20000 in
theorem gX9_wireOf_X2_sourceOf : GoodIn wsX9_wireOf (wsV RX9 132 RX2 yX2_sourceOf wsX2_sourceOf) := goodIn_app (goodIn_of _ (by decide +kernel)) ggX9_wireOf_X2_sourceOf
theorem dX9_wireOf_0 : decode cX9_wireOf 0 = .ok (.aload_n 0, 1) := by decide +kernel
theorem dX9_wireOf_1 : decode cX9_wireOf 1 = .ok (.getfield 10, 3) := by decide +kernel
theorem dX9_wireOf_4 : decode cX9_wireOf 4 = .ok (.iload_n 1, 1) := by decide +kernel
theorem dX9_wireOf_5 : decode cX9_wireOf 5 = .ok (.invokevirtual 91, 3) := by decide +kernel
theorem dX9_wireOf_8 : decode cX9_wireOf 8 = .ok (.ifCond .ne 6, 3) := by decide +kernel
theorem dX9_wireOf_11 : decode cX9_wireOf 11 = .ok (.bipush (-11), 2) := by decide +kernel
theorem dX9_wireOf_13 : decode cX9_wireOf 13 = .ok (.ireturn, 1) := by decide +kernel
theorem dX9_wireOf_14 : decode cX9_wireOf 14 = .ok (.iload_n 2, 1) := by decide +kernel
theorem dX9_wireOf_15 : decode cX9_wireOf 15 = .ok (.invokestatic 129, 3) := by decide +kernel
theorem dX9_wireOf_18 : decode cX9_wireOf 18 = .ok (.ifCond .ne 6, 3) := by decide +kernel
theorem dX9_wireOf_21 : decode cX9_wireOf 21 = .ok (.bipush (-12), 2) := by decide +kernel
theorem dX9_wireOf_23 : decode cX9_wireOf 23 = .ok (.ireturn, 1) := by decide +kernel
theorem dX9_wireOf_24 : decode cX9_wireOf 24 = .ok (.aload_n 0, 1) := by decide +kernel
theorem dX9_wireOf_25 : decode cX9_wireOf 25 = .ok (.getfield 10, 3) := by decide +kernel
theorem dX9_wireOf_28 : decode cX9_wireOf 28 = .ok (.iload_n 1, 1) := by decide +kernel
theorem dX9_wireOf_29 : decode cX9_wireOf 29 = .ok (.iload_n 2, 1) := by decide +kernel
theorem dX9_wireOf_30 : decode cX9_wireOf 30 = .ok (.invokevirtual 132, 3) := by decide +kernel
theorem dX9_wireOf_33 : decode cX9_wireOf 33 = .ok (.istore_n 3, 1) := by decide +kernel
theorem dX9_wireOf_34 : decode cX9_wireOf 34 = .ok (.iload_n 3, 1) := by decide +kernel
theorem dX9_wireOf_35 : decode cX9_wireOf 35 = .ok (.iconst (-1), 1) := by decide +kernel
theorem dX9_wireOf_36 : decode cX9_wireOf 36 = .ok (.if_icmp .ne 8, 3) := by decide +kernel
theorem dX9_wireOf_39 : decode cX9_wireOf 39 = .ok (.bipush (-15), 2) := by decide +kernel
theorem dX9_wireOf_41 : decode cX9_wireOf 41 = .ok (.goto 4, 3) := by decide +kernel
theorem dX9_wireOf_44 : decode cX9_wireOf 44 = .ok (.iload_n 3, 1) := by decide +kernel
theorem dX9_wireOf_45 : decode cX9_wireOf 45 = .ok (.ireturn, 1) := by decide +kernel
set_option maxRecDepth 20000 in
theorem ggX9_leads_X2_isHung : GoodIn wsX9_leads wsX2_isHung := goodIn_r _ [6, 7, 33, 34, 35, 36, 37, 38, 39, 40, 41, 42] (by decide +kernel) (by decide +kernel)
set_option maxRecDepth 20000 in
theorem gX9_leads_X2_isHung : GoodIn wsX9_leads (wsV RX9 91 RX2 yX2_isHung wsX2_isHung) := goodIn_app (goodIn_of _ (by decide +kernel)) ggX9_leads_X2_isHung
set_option maxRecDepth 20000 in
theorem ggX9_leads_X5_ledFrom : GoodIn wsX9_leads wsX5_ledFrom := goodIn_r _ [11, 12, 13, 10, 14, 15, 16, 17, 5, 18, 7, 19, 20, 21, 22, 23, 33, 34, 35, 36, 37, 38, 39, 40, 41, 42] (by decide +kernel) (by decide +kernel)
set_option maxRecDepth 20000 in
theorem gX9_leads_X5_ledFrom : GoodIn wsX9_leads (va_wsS RX9 135 yX5_ledFrom wsX5_ledFrom) := goodIn_app (goodIn_of _ (by decide +kernel)) ggX9_leads_X5_ledFrom
theorem dX9_leads_0 : decode cX9_leads 0 = .ok (.aload_n 0, 1) := by decide +kernel
theorem dX9_leads_1 : decode cX9_leads 1 = .ok (.getfield 10, 3) := by decide +kernel
theorem dX9_leads_4 : decode cX9_leads 4 = .ok (.iload_n 1, 1) := by decide +kernel
theorem dX9_leads_5 : decode cX9_leads 5 = .ok (.invokevirtual 91, 3) := by decide +kernel
theorem dX9_leads_8 : decode cX9_leads 8 = .ok (.ifCond .eq 14, 3) := by decide +kernel
theorem dX9_leads_11 : decode cX9_leads 11 = .ok (.aload_n 0, 1) := by decide +kernel
theorem dX9_leads_12 : decode cX9_leads 12 = .ok (.getfield 10, 3) := by decide +kernel
theorem dX9_leads_15 : decode cX9_leads 15 = .ok (.iload_n 1, 1) := by decide +kernel
theorem dX9_leads_16 : decode cX9_leads 16 = .ok (.invokestatic 135, 3) := by decide +kernel
theorem dX9_leads_19 : decode cX9_leads 19 = .ok (.goto 5, 3) := by decide +kernel
theorem dX9_leads_22 : decode cX9_leads 22 = .ok (.bipush (-11), 2) := by decide +kernel
theorem dX9_leads_24 : decode cX9_leads 24 = .ok (.ireturn, 1) := by decide +kernel
set_option maxRecDepth 20000 in
theorem ggX9_looped_X5_inLoops : GoodIn wsX9_looped wsX5_inLoops := goodIn_r _ [5, 6, 7, 8, 9, 10, 11, 12, 13, 4, 14, 15, 16, 17, 18, 19, 20, 21, 22, 23, 24, 25, 35, 36, 37, 38, 39, 40, 41, 42, 43, 44] (by decide +kernel) (by decide +kernel)
set_option maxRecDepth 20000 in
theorem gX9_looped_X5_inLoops : GoodIn wsX9_looped (va_wsS RX9 141 yX5_inLoops wsX5_inLoops) := goodIn_app (goodIn_of _ (by decide +kernel)) ggX9_looped_X5_inLoops
theorem dX9_looped_0 : decode cX9_looped 0 = .ok (.aload_n 0, 1) := by decide +kernel
theorem dX9_looped_1 : decode cX9_looped 1 = .ok (.getfield 10, 3) := by decide +kernel
theorem dX9_looped_4 : decode cX9_looped 4 = .ok (.invokestatic 141, 3) := by decide +kernel
theorem dX9_looped_7 : decode cX9_looped 7 = .ok (.ireturn, 1) := by decide +kernel
set_option maxRecDepth 20000 in
theorem ggX9_depth_X2_isHung : GoodIn wsX9_depth wsX2_isHung := goodIn_r _ [7, 8, 55, 56, 57, 58, 59, 60, 61, 62, 63, 64] (by decide +kernel) (by decide +kernel)
set_option maxRecDepth 20000 in
theorem gX9_depth_X2_isHung : GoodIn wsX9_depth (wsV RX9 91 RX2 yX2_isHung wsX2_isHung) := goodIn_app (goodIn_of _ (by decide +kernel)) ggX9_depth_X2_isHung
set_option maxRecDepth 20000 in
theorem ggX9_depth_X0_byWires : GoodIn wsX9_depth wsX0_byWires := goodIn_r _ [13, 14, 15, 16, 17, 18, 19, 20, 12, 21, 22, 23, 24, 25, 26, 4, 5, 6, 7, 8, 27, 28, 29, 30, 31, 32, 33, 34, 35, 36, 37, 38, 39, 40, 41, 42, 43, 44, 45, 65, 55, 56, 57, 58, 59, 60, 61, 62, 63, 64] (by decide +kernel) (by decide +kernel)
set_option maxRecDepth 20000 in
theorem gX9_depth_X0_byWires : GoodIn wsX9_depth (wsV RX9 145 RX0 yX0_byWires wsX0_byWires) := goodIn_app (goodIn_of _ (by decide +kernel)) ggX9_depth_X0_byWires
theorem dX9_depth_0 : decode cX9_depth 0 = .ok (.aload_n 0, 1) := by decide +kernel
theorem dX9_depth_1 : decode cX9_depth 1 = .ok (.getfield 10, 3) := by decide +kernel
theorem dX9_depth_4 : decode cX9_depth 4 = .ok (.iload_n 1, 1) := by decide +kernel
theorem dX9_depth_5 : decode cX9_depth 5 = .ok (.invokevirtual 91, 3) := by decide +kernel
theorem dX9_depth_8 : decode cX9_depth 8 = .ok (.ifCond .eq 18, 3) := by decide +kernel
theorem dX9_depth_11 : decode cX9_depth 11 = .ok (.aload_n 0, 1) := by decide +kernel
theorem dX9_depth_12 : decode cX9_depth 12 = .ok (.getfield 29, 3) := by decide +kernel
theorem dX9_depth_15 : decode cX9_depth 15 = .ok (.aload_n 0, 1) := by decide +kernel
theorem dX9_depth_16 : decode cX9_depth 16 = .ok (.getfield 10, 3) := by decide +kernel
theorem dX9_depth_19 : decode cX9_depth 19 = .ok (.iload_n 1, 1) := by decide +kernel
theorem dX9_depth_20 : decode cX9_depth 20 = .ok (.invokevirtual 145, 3) := by decide +kernel
theorem dX9_depth_23 : decode cX9_depth 23 = .ok (.goto 5, 3) := by decide +kernel
theorem dX9_depth_26 : decode cX9_depth 26 = .ok (.bipush (-11), 2) := by decide +kernel
theorem dX9_depth_28 : decode cX9_depth 28 = .ok (.ireturn, 1) := by decide +kernel
set_option maxRecDepth 20000 in
theorem ggX9_depthAgain_X2_isHung : GoodIn wsX9_depthAgain wsX2_isHung := goodIn_r _ [7, 8, 64, 65, 66, 67, 68, 69, 70, 71, 72, 73] (by decide +kernel) (by decide +kernel)
set_option maxRecDepth 20000 in
theorem gX9_depthAgain_X2_isHung : GoodIn wsX9_depthAgain (wsV RX9 91 RX2 yX2_isHung wsX2_isHung) := goodIn_app (goodIn_of _ (by decide +kernel)) ggX9_depthAgain_X2_isHung
set_option maxRecDepth 20000 in
theorem ggX9_depthAgain_X0_byRounds : GoodIn wsX9_depthAgain wsX0_byRounds := goodIn_r _ [13, 14, 15, 16, 17, 18, 19, 20, 21, 12, 22, 23, 24, 25, 6, 26, 8, 27, 28, 29, 30, 31, 32, 33, 34, 35, 36, 37, 38, 39, 40, 4, 5, 7, 41, 42, 43, 44, 45, 46, 47, 48, 49, 50, 51, 52, 53, 54, 74, 64, 65, 66, 67, 68, 69, 70, 71, 72, 73] (by decide +kernel) (by decide +kernel)
set_option maxRecDepth 20000 in
theorem gX9_depthAgain_X0_byRounds : GoodIn wsX9_depthAgain (wsV RX9 148 RX0 yX0_byRounds wsX0_byRounds) := goodIn_app (goodIn_of _ (by decide +kernel)) ggX9_depthAgain_X0_byRounds
theorem dX9_depthAgain_0 : decode cX9_depthAgain 0 = .ok (.aload_n 0, 1) := by decide +kernel
theorem dX9_depthAgain_1 : decode cX9_depthAgain 1 = .ok (.getfield 10, 3) := by decide +kernel
theorem dX9_depthAgain_4 : decode cX9_depthAgain 4 = .ok (.iload_n 1, 1) := by decide +kernel
theorem dX9_depthAgain_5 : decode cX9_depthAgain 5 = .ok (.invokevirtual 91, 3) := by decide +kernel
theorem dX9_depthAgain_8 : decode cX9_depthAgain 8 = .ok (.ifCond .eq 18, 3) := by decide +kernel
theorem dX9_depthAgain_11 : decode cX9_depthAgain 11 = .ok (.aload_n 0, 1) := by decide +kernel
theorem dX9_depthAgain_12 : decode cX9_depthAgain 12 = .ok (.getfield 29, 3) := by decide +kernel
theorem dX9_depthAgain_15 : decode cX9_depthAgain 15 = .ok (.aload_n 0, 1) := by decide +kernel
theorem dX9_depthAgain_16 : decode cX9_depthAgain 16 = .ok (.getfield 10, 3) := by decide +kernel
