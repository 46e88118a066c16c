theorem dX5_init_0 : decode cX5_init 0 = .ok (.aload_n 0, 1) := by decide +kernel
theorem dX5_init_1 : decode cX5_init 1 = .ok (.invokespecial 1, 3) := by decide +kernel
theorem dX5_init_4 : decode cX5_init 4 = .ok (.aload_n 0, 1) := by decide +kernel
theorem dX5_init_5 : decode cX5_init 5 = .ok (.sipush 170, 3) := by decide +kernel
theorem dX5_init_8 : decode cX5_init 8 = .ok (.newarray .int, 2) := by decide +kernel
theorem dX5_init_10 : decode cX5_init 10 = .ok (.putfield 7, 3) := by decide +kernel
theorem dX5_init_13 : decode cX5_init 13 = .ok (.aload_n 0, 1) := by decide +kernel
theorem dX5_init_14 : decode cX5_init 14 = .ok (.sipush 1020, 3) := by decide +kernel
theorem dX5_init_17 : decode cX5_init 17 = .ok (.newarray .int, 2) := by decide +kernel
theorem dX5_init_19 : decode cX5_init 19 = .ok (.putfield 13, 3) := by decide +kernel
theorem dX5_init_22 : decode cX5_init 22 = .ok (.aload_n 0, 1) := by decide +kernel
theorem dX5_init_23 : decode cX5_init 23 = .ok (.sipush 340, 3) := by decide +kernel
theorem dX5_init_26 : decode cX5_init 26 = .ok (.newarray .int, 2) := by decide +kernel
theorem dX5_init_28 : decode cX5_init 28 = .ok (.putfield 16, 3) := by decide +kernel
theorem dX5_init_31 : decode cX5_init 31 = .ok (.aload_n 0, 1) := by decide +kernel
theorem dX5_init_32 : decode cX5_init 32 = .ok (.iconst 2, 1) := by decide +kernel
theorem dX5_init_33 : decode cX5_init 33 = .ok (.newarray .boolean, 2) := by decide +kernel
theorem dX5_init_35 : decode cX5_init 35 = .ok (.putfield 19, 3) := by decide +kernel
theorem dX5_init_38 : decode cX5_init 38 = .ok (.aload_n 0, 1) := by decide +kernel
theorem dX5_init_39 : decode cX5_init 39 = .ok (.bipush 60, 2) := by decide +kernel
theorem dX5_init_41 : decode cX5_init 41 = .ok (.newarray .int, 2) := by decide +kernel
theorem dX5_init_43 : decode cX5_init 43 = .ok (.putfield 23, 3) := by decide +kernel
theorem dX5_init_46 : decode cX5_init 46 = .ok (.aload_n 0, 1) := by decide +kernel
theorem dX5_init_47 : decode cX5_init 47 = .ok (.iconst (-1), 1) := by decide +kernel
theorem dX5_init_48 : decode cX5_init 48 = .ok (.putfield 26, 3) := by decide +kernel
theorem dX5_init_51 : decode cX5_init 51 = .ok (.aload_n 0, 1) := by decide +kernel
theorem dX5_init_52 : decode cX5_init 52 = .ok (.bipush 10, 2) := by decide +kernel
theorem dX5_init_54 : decode cX5_init 54 = .ok (.newarray .int, 2) := by decide +kernel
theorem dX5_init_56 : decode cX5_init 56 = .ok (.putfield 30, 3) := by decide +kernel
theorem dX5_init_59 : decode cX5_init 59 = .ok (.aload_n 0, 1) := by decide +kernel
theorem dX5_init_60 : decode cX5_init 60 = .ok (.getfield 7, 3) := by decide +kernel
theorem dX5_init_63 : decode cX5_init 63 = .ok (.bipush 40, 2) := by decide +kernel
theorem dX5_init_65 : decode cX5_init 65 = .ok (.bipush 6, 2) := by decide +kernel
theorem dX5_init_67 : decode cX5_init 67 = .ok (.iastore, 1) := by decide +kernel
theorem dX5_init_68 : decode cX5_init 68 = .ok (.aload_n 0, 1) := by decide +kernel
theorem dX5_init_69 : decode cX5_init 69 = .ok (.getfield 7, 3) := by decide +kernel
theorem dX5_init_72 : decode cX5_init 72 = .ok (.bipush 41, 2) := by decide +kernel
theorem dX5_init_74 : decode cX5_init 74 = .ok (.iconst 1, 1) := by decide +kernel
theorem dX5_init_75 : decode cX5_init 75 = .ok (.iastore, 1) := by decide +kernel
theorem dX5_init_76 : decode cX5_init 76 = .ok (.aload_n 0, 1) := by decide +kernel
theorem dX5_init_77 : decode cX5_init 77 = .ok (.getfield 7, 3) := by decide +kernel
theorem dX5_init_80 : decode cX5_init 80 = .ok (.bipush 42, 2) := by decide +kernel
theorem dX5_init_82 : decode cX5_init 82 = .ok (.sipush 360, 3) := by decide +kernel
theorem dX5_init_85 : decode cX5_init 85 = .ok (.iastore, 1) := by decide +kernel
theorem dX5_init_86 : decode cX5_init 86 = .ok (.return_, 1) := by decide +kernel
theorem dX5_thrown_0 : decode cX5_thrown 0 = .ok (.aload_n 0, 1) := by decide +kernel
theorem dX5_thrown_1 : decode cX5_thrown 1 = .ok (.getfield 33, 3) := by decide +kernel
theorem dX5_thrown_4 : decode cX5_thrown 4 = .ok (.ireturn, 1) := by decide +kernel
theorem dX5_refused_0 : decode cX5_refused 0 = .ok (.aload_n 0, 1) := by decide +kernel
theorem dX5_refused_1 : decode cX5_refused 1 = .ok (.iload_n 1, 1) := by decide +kernel
theorem dX5_refused_2 : decode cX5_refused 2 = .ok (.putfield 33, 3) := by decide +kernel
theorem dX5_refused_5 : decode cX5_refused 5 = .ok (.iload_n 1, 1) := by decide +kernel
theorem dX5_refused_6 : decode cX5_refused 6 = .ok (.ifCond .le 7, 3) := by decide +kernel
theorem dX5_refused_9 : decode cX5_refused 9 = .ok (.iconst 1, 1) := by decide +kernel
theorem dX5_refused_10 : decode cX5_refused 10 = .ok (.goto 4, 3) := by decide +kernel
theorem dX5_refused_13 : decode cX5_refused 13 = .ok (.iconst 0, 1) := by decide +kernel
theorem dX5_refused_14 : decode cX5_refused 14 = .ok (.ireturn, 1) := by decide +kernel
theorem dX5_in_0 : decode cX5_in 0 = .ok (.iload_n 0, 1) := by decide +kernel
theorem dX5_in_1 : decode cX5_in 1 = .ok (.iload_n 1, 1) := by decide +kernel
theorem dX5_in_2 : decode cX5_in 2 = .ok (.if_icmp .lt 12, 3) := by decide +kernel
theorem dX5_in_5 : decode cX5_in 5 = .ok (.iload_n 0, 1) := by decide +kernel
theorem dX5_in_6 : decode cX5_in 6 = .ok (.iload_n 2, 1) := by decide +kernel
theorem dX5_in_7 : decode cX5_in 7 = .ok (.if_icmp .gt 7, 3) := by decide +kernel
theorem dX5_in_10 : decode cX5_in 10 = .ok (.iconst 1, 1) := by decide +kernel
theorem dX5_in_11 : decode cX5_in 11 = .ok (.goto 4, 3) := by decide +kernel
theorem dX5_in_14 : decode cX5_in 14 = .ok (.iconst 0, 1) := by decide +kernel
theorem dX5_in_15 : decode cX5_in 15 = .ok (.ireturn, 1) := by decide +kernel
set_option maxRecDepth 20000 in
theorem ggX5_isLamp_X5_in : GoodIn wsX5_isLamp wsX5_in := goodIn_r _ [4] (by decide +kernel) (by decide +kernel)
set_option maxRecDepth 20000 in
theorem gX5_isLamp_X5_in : GoodIn wsX5_isLamp (va_wsS RX5 36 yX5_in wsX5_in) := goodIn_app (goodIn_of _ (by decide +kernel)) ggX5_isLamp_X5_in
theorem dX5_isLamp_0 : decode cX5_isLamp 0 = .ok (.iload_n 0, 1) := by decide +kernel
theorem dX5_isLamp_1 : decode cX5_isLamp 1 = .ok (.iconst 0, 1) := by decide +kernel
theorem dX5_isLamp_2 : decode cX5_isLamp 2 = .ok (.bipush 7, 2) := by decide +kernel
theorem dX5_isLamp_4 : decode cX5_isLamp 4 = .ok (.invokestatic 36, 3) := by decide +kernel
theorem dX5_isLamp_7 : decode cX5_isLamp 7 = .ok (.ireturn, 1) := by decide +kernel
theorem dX5_copyState_0 : decode cX5_copyState 0 = .ok (.iconst 0, 1) := by decide +kernel
theorem dX5_copyState_1 : decode cX5_copyState 1 = .ok (.istore 4, 2) := by decide +kernel
theorem dX5_copyState_3 : decode cX5_copyState 3 = .ok (.iload 4, 2) := by decide +kernel
theorem dX5_copyState_5 : decode cX5_copyState 5 = .ok (.sipush 170, 3) := by decide +kernel
theorem dX5_copyState_8 : decode cX5_copyState 8 = .ok (.if_icmp .ge 21, 3) := by decide +kernel
theorem dX5_copyState_11 : decode cX5_copyState 11 = .ok (.aload_n 2, 1) := by decide +kernel
theorem dX5_copyState_12 : decode cX5_copyState 12 = .ok (.iload_n 3, 1) := by decide +kernel
theorem dX5_copyState_13 : decode cX5_copyState 13 = .ok (.iload 4, 2) := by decide +kernel
theorem dX5_copyState_15 : decode cX5_copyState 15 = .ok (.iadd, 1) := by decide +kernel
theorem dX5_copyState_16 : decode cX5_copyState 16 = .ok (.aload_n 0, 1) := by decide +kernel
theorem dX5_copyState_17 : decode cX5_copyState 17 = .ok (.iload_n 1, 1) := by decide +kernel
theorem dX5_copyState_18 : decode cX5_copyState 18 = .ok (.iload 4, 2) := by decide +kernel
theorem dX5_copyState_20 : decode cX5_copyState 20 = .ok (.iadd, 1) := by decide +kernel
theorem dX5_copyState_21 : decode cX5_copyState 21 = .ok (.iaload, 1) := by decide +kernel
theorem dX5_copyState_22 : decode cX5_copyState 22 = .ok (.iastore, 1) := by decide +kernel
theorem dX5_copyState_23 : decode cX5_copyState 23 = .ok (.iinc 4 1, 3) := by decide +kernel
theorem dX5_copyState_26 : decode cX5_copyState 26 = .ok (.goto (-23), 3) := by decide +kernel
theorem dX5_copyState_29 : decode cX5_copyState 29 = .ok (.return_, 1) := by decide +kernel
set_option maxRecDepth 20000 in
theorem ggX5_saveState_X5_copyState : GoodIn wsX5_saveState wsX5_copyState := goodIn_r _ [7] (by decide +kernel) (by decide +kernel)
set_option maxRecDepth 20000 in
theorem gX5_saveState_X5_copyState : GoodIn wsX5_saveState (va_wsS RX5 43 yX5_copyState wsX5_copyState) := goodIn_app (goodIn_of _ (by decide +kernel)) ggX5_saveState_X5_copyState
theorem dX5_saveState_0 : decode cX5_saveState 0 = .ok (.aload_n 0, 1) := by decide +kernel
theorem dX5_saveState_1 : decode cX5_saveState 1 = .ok (.getfield 40, 3) := by decide +kernel
theorem dX5_saveState_4 : decode cX5_saveState 4 = .ok (.bipush 6, 2) := by decide +kernel
theorem dX5_saveState_6 : decode cX5_saveState 6 = .ok (.if_icmp .ne 44, 3) := by decide +kernel
theorem dX5_saveState_9 : decode cX5_saveState 9 = .ok (.iconst 0, 1) := by decide +kernel
theorem dX5_saveState_10 : decode cX5_saveState 10 = .ok (.istore_n 1, 1) := by decide +kernel
theorem dX5_saveState_11 : decode cX5_saveState 11 = .ok (.iload_n 1, 1) := by decide +kernel
theorem dX5_saveState_12 : decode cX5_saveState 12 = .ok (.sipush 850, 3) := by decide +kernel
theorem dX5_saveState_15 : decode cX5_saveState 15 = .ok (.if_icmp .ge 25, 3) := by decide +kernel
theorem dX5_saveState_18 : decode cX5_saveState 18 = .ok (.aload_n 0, 1) := by decide +kernel
theorem dX5_saveState_19 : decode cX5_saveState 19 = .ok (.getfield 13, 3) := by decide +kernel
theorem dX5_saveState_22 : decode cX5_saveState 22 = .ok (.iload_n 1, 1) := by decide +kernel
theorem dX5_saveState_23 : decode cX5_saveState 23 = .ok (.aload_n 0, 1) := by decide +kernel
theorem dX5_saveState_24 : decode cX5_saveState 24 = .ok (.getfield 13, 3) := by decide +kernel
theorem dX5_saveState_27 : decode cX5_saveState 27 = .ok (.iload_n 1, 1) := by decide +kernel
theorem dX5_saveState_28 : decode cX5_saveState 28 = .ok (.sipush 170, 3) := by decide +kernel
theorem dX5_saveState_31 : decode cX5_saveState 31 = .ok (.iadd, 1) := by decide +kernel
theorem dX5_saveState_32 : decode cX5_saveState 32 = .ok (.iaload, 1) := by decide +kernel
theorem dX5_saveState_33 : decode cX5_saveState 33 = .ok (.iastore, 1) := by decide +kernel
theorem dX5_saveState_34 : decode cX5_saveState 34 = .ok (.iinc 1 1, 3) := by decide +kernel
theorem dX5_saveState_37 : decode cX5_saveState 37 = .ok (.goto (-26), 3) := by decide +kernel
theorem dX5_saveState_40 : decode cX5_saveState 40 = .ok (.aload_n 0, 1) := by decide +kernel
theorem dX5_saveState_41 : decode cX5_saveState 41 = .ok (.dup, 1) := by decide +kernel
theorem dX5_saveState_42 : decode cX5_saveState 42 = .ok (.getfield 40, 3) := by decide +kernel
theorem dX5_saveState_45 : decode cX5_saveState 45 = .ok (.iconst 1, 1) := by decide +kernel
theorem dX5_saveState_46 : decode cX5_saveState 46 = .ok (.isub, 1) := by decide +kernel
theorem dX5_saveState_47 : decode cX5_saveState 47 = .ok (.putfield 40, 3) := by decide +kernel
theorem dX5_saveState_50 : decode cX5_saveState 50 = .ok (.aload_n 0, 1) := by decide +kernel
theorem dX5_saveState_51 : decode cX5_saveState 51 = .ok (.getfield 7, 3) := by decide +kernel
theorem dX5_saveState_54 : decode cX5_saveState 54 = .ok (.iconst 0, 1) := by decide +kernel
theorem dX5_saveState_55 : decode cX5_saveState 55 = .ok (.aload_n 0, 1) := by decide +kernel
theorem dX5_saveState_56 : decode cX5_saveState 56 = .ok (.getfield 13, 3) := by decide +kernel
theorem dX5_saveState_59 : decode cX5_saveState 59 = .ok (.sipush 170, 3) := by decide +kernel
theorem dX5_saveState_62 : decode cX5_saveState 62 = .ok (.aload_n 0, 1) := by decide +kernel
theorem dX5_saveState_63 : decode cX5_saveState 63 = .ok (.getfield 40, 3) := by decide +kernel
theorem dX5_saveState_66 : decode cX5_saveState 66 = .ok (.imul, 1) := by decide +kernel
theorem dX5_saveState_67 : decode cX5_saveState 67 = .ok (.invokestatic 43, 3) := by decide +kernel
theorem dX5_saveState_70 : decode cX5_saveState 70 = .ok (.aload_n 0, 1) := by decide +kernel
theorem dX5_saveState_71 : decode cX5_saveState 71 = .ok (.dup, 1) := by decide +kernel
theorem dX5_saveState_72 : decode cX5_saveState 72 = .ok (.getfield 40, 3) := by decide +kernel
theorem dX5_saveState_75 : decode cX5_saveState 75 = .ok (.iconst 1, 1) := by decide +kernel
theorem dX5_saveState_76 : decode cX5_saveState 76 = .ok (.iadd, 1) := by decide +kernel
theorem dX5_saveState_77 : decode cX5_saveState 77 = .ok (.putfield 40, 3) := by decide +kernel
theorem dX5_saveState_80 : decode cX5_saveState 80 = .ok (.return_, 1) := by decide +kernel
set_option maxRecDepth 20000 in
theorem ggX5_change_X5_saveState : GoodIn wsX5_change wsX5_saveState := goodIn_r _ [6, 7, 8, 1, 9, 10, 5, 11, 12, 13, 14, 15, 16, 17, 18, 19, 20, 21, 22, 23, 24] (by decide +kernel) (by decide +kernel)
set_option maxRecDepth 20000 in
theorem gX5_change_X5_saveState : GoodIn wsX5_change (wsV RX5 47 RX5 yX5_saveState wsX5_saveState) := goodIn_app (goodIn_of _ (by decide +kernel)) ggX5_change_X5_saveState
theorem dX5_change_0 : decode cX5_change 0 = .ok (.aload_n 0, 1) := by decide +kernel
theorem dX5_change_1 : decode cX5_change 1 = .ok (.invokevirtual 47, 3) := by decide +kernel
theorem dX5_change_4 : decode cX5_change 4 = .ok (.aload_n 0, 1) := by decide +kernel
theorem dX5_change_5 : decode cX5_change 5 = .ok (.getfield 7, 3) := by decide +kernel
theorem dX5_change_8 : decode cX5_change 8 = .ok (.iload_n 1, 1) := by decide +kernel
theorem dX5_change_9 : decode cX5_change 9 = .ok (.iaload, 1) := by decide +kernel
theorem dX5_change_10 : decode cX5_change 10 = .ok (.istore_n 3, 1) := by decide +kernel
theorem dX5_change_11 : decode cX5_change 11 = .ok (.aload_n 0, 1) := by decide +kernel
theorem dX5_change_12 : decode cX5_change 12 = .ok (.getfield 7, 3) := by decide +kernel
theorem dX5_change_15 : decode cX5_change 15 = .ok (.iload_n 1, 1) := by decide +kernel
theorem dX5_change_16 : decode cX5_change 16 = .ok (.iload_n 2, 1) := by decide +kernel
theorem dX5_change_17 : decode cX5_change 17 = .ok (.iastore, 1) := by decide +kernel
theorem dX5_change_18 : decode cX5_change 18 = .ok (.iload_n 3, 1) := by decide +kernel
theorem dX5_change_19 : decode cX5_change 19 = .ok (.ireturn, 1) := by decide +kernel
set_option maxRecDepth 20000 in
theorem ggX5_mode_X5_isLamp : GoodIn wsX5_mode wsX5_isLamp := goodIn_r _ [4, 5, 6, 3, 7] (by decide +kernel) (by decide +kernel)
set_option maxRecDepth 20000 in
theorem gX5_mode_X5_isLamp : GoodIn wsX5_mode (va_wsS RX5 50 yX5_isLamp wsX5_isLamp) := goodIn_app (goodIn_of _ (by decide +kernel)) ggX5_mode_X5_isLamp
set_option maxRecDepth 20000 in
theorem ggX5_mode_X5_in : GoodIn wsX5_mode wsX5_in := goodIn_r _ [7] (by decide +kernel) (by decide +kernel)
set_option maxRecDepth 20000 in
theorem gX5_mode_X5_in : GoodIn wsX5_mode (va_wsS RX5 36 yX5_in wsX5_in) := goodIn_app (goodIn_of _ (by decide +kernel)) ggX5_mode_X5_in
set_option maxRecDepth 20000 in
theorem ggX5_mode_X5_refused : GoodIn wsX5_mode wsX5_refused := goodIn_r _ [11, 12, 27, 28, 29, 30, 31, 32, 33, 34, 35, 36, 37, 38, 39] (by decide +kernel) (by decide +kernel)
set_option maxRecDepth 20000 in
theorem gX5_mode_X5_refused : GoodIn wsX5_mode (wsV RX5 54 RX5 yX5_refused wsX5_refused) := goodIn_app (goodIn_of _ (by decide +kernel)) ggX5_mode_X5_refused
set_option maxRecDepth 20000 in
theorem ggX5_mode_X5_change : GoodIn wsX5_mode wsX5_change := goodIn_r _ [16, 17, 18, 19, 20, 3, 21, 22, 23, 24, 25, 26, 27, 28, 29, 30, 31, 32, 33, 34, 35, 36, 37, 38, 39] (by decide +kernel) (by decide +kernel)
set_option maxRecDepth 20000 in
theorem gX5_mode_X5_change : GoodIn wsX5_mode (wsV RX5 57 RX5 yX5_change wsX5_change) := goodIn_app (goodIn_of _ (by decide +kernel)) ggX5_mode_X5_change
theorem dX5_mode_0 : decode cX5_mode 0 = .ok (.aload_n 0, 1) := by decide +kernel
theorem dX5_mode_1 : decode cX5_mode 1 = .ok (.iload_n 1, 1) := by decide +kernel
theorem dX5_mode_2 : decode cX5_mode 2 = .ok (.invokestatic 50, 3) := by decide +kernel
theorem dX5_mode_5 : decode cX5_mode 5 = .ok (.ifCond .ne 7, 3) := by decide +kernel
theorem dX5_mode_8 : decode cX5_mode 8 = .ok (.iconst 1, 1) := by decide +kernel
theorem dX5_mode_9 : decode cX5_mode 9 = .ok (.goto 17, 3) := by decide +kernel
theorem dX5_mode_12 : decode cX5_mode 12 = .ok (.iload_n 2, 1) := by decide +kernel
theorem dX5_mode_13 : decode cX5_mode 13 = .ok (.iconst 0, 1) := by decide +kernel
theorem dX5_mode_14 : decode cX5_mode 14 = .ok (.iconst 3, 1) := by decide +kernel
theorem dX5_mode_15 : decode cX5_mode 15 = .ok (.invokestatic 36, 3) := by decide +kernel
theorem dX5_mode_18 : decode cX5_mode 18 = .ok (.ifCond .eq 7, 3) := by decide +kernel
theorem dX5_mode_21 : decode cX5_mode 21 = .ok (.iconst 0, 1) := by decide +kernel
theorem dX5_mode_22 : decode cX5_mode 22 = .ok (.goto 4, 3) := by decide +kernel
theorem dX5_mode_25 : decode cX5_mode 25 = .ok (.iconst 2, 1) := by decide +kernel
theorem dX5_mode_26 : decode cX5_mode 26 = .ok (.invokevirtual 54, 3) := by decide +kernel
theorem dX5_mode_29 : decode cX5_mode 29 = .ok (.ifCond .eq 7, 3) := by decide +kernel
theorem dX5_mode_32 : decode cX5_mode 32 = .ok (.iconst 0, 1) := by decide +kernel
theorem dX5_mode_33 : decode cX5_mode 33 = .ok (.goto 11, 3) := by decide +kernel
theorem dX5_mode_36 : decode cX5_mode 36 = .ok (.aload_n 0, 1) := by decide +kernel
theorem dX5_mode_37 : decode cX5_mode 37 = .ok (.iconst 0, 1) := by decide +kernel
theorem dX5_mode_38 : decode cX5_mode 38 = .ok (.iload_n 1, 1) := by decide +kernel
theorem dX5_mode_39 : decode cX5_mode 39 = .ok (.iadd, 1) := by decide +kernel
theorem dX5_mode_40 : decode cX5_mode 40 = .ok (.iload_n 2, 1) := by decide +kernel
theorem dX5_mode_41 : decode cX5_mode 41 = .ok (.invokevirtual 57, 3) := by decide +kernel
theorem dX5_mode_44 : decode cX5_mode 44 = .ok (.ireturn, 1) := by decide +kernel
set_option maxRecDepth 20000 in
theorem ggX5_loss_X5_isLamp : GoodIn wsX5_loss wsX5_isLamp := goodIn_r _ [4, 5, 6, 3, 7] (by decide +kernel) (by decide +kernel)
set_option maxRecDepth 20000 in
theorem gX5_loss_X5_isLamp : GoodIn wsX5_loss (va_wsS RX5 50 yX5_isLamp wsX5_isLamp) := goodIn_app (goodIn_of _ (by decide +kernel)) ggX5_loss_X5_isLamp
set_option maxRecDepth 20000 in
theorem ggX5_loss_X5_in : GoodIn wsX5_loss wsX5_in := goodIn_r _ [7] (by decide +kernel) (by decide +kernel)
set_option maxRecDepth 20000 in
theorem gX5_loss_X5_in : GoodIn wsX5_loss (va_wsS RX5 36 yX5_in wsX5_in) := goodIn_app (goodIn_of _ (by decide +kernel)) ggX5_loss_X5_in
set_option maxRecDepth 20000 in
theorem ggX5_loss_X5_refused : GoodIn wsX5_loss wsX5_refused := goodIn_r _ [11, 12, 27, 28, 29, 30, 31, 32, 33, 34, 35, 36, 37, 38, 39] (by decide +kernel) (by decide +kernel)
set_option maxRecDepth 20000 in
theorem gX5_loss_X5_refused : GoodIn wsX5_loss (wsV RX5 54 RX5 yX5_refused wsX5_refused) := goodIn_app (goodIn_of _ (by decide +kernel)) ggX5_loss_X5_refused
set_option maxRecDepth 20000 in
theorem ggX5_loss_X5_change : GoodIn wsX5_loss wsX5_change := goodIn_r _ [16, 17, 18, 19, 20, 3, 21, 22, 23, 24, 25, 26, 27, 28, 29, 30, 31, 32, 33, 34, 35, 36, 37, 38, 39] (by decide +kernel) (by decide +kernel)
set_option maxRecDepth 20000 in
theorem gX5_loss_X5_change : GoodIn wsX5_loss (wsV RX5 57 RX5 yX5_change wsX5_change) := goodIn_app (goodIn_of _ (by decide +kernel)) ggX5_loss_X5_change
theorem dX5_loss_0 : decode cX5_loss 0 = .ok (.aload_n 0, 1) := by decide +kernel
theorem dX5_loss_1 : decode cX5_loss 1 = .ok (.iload_n 1, 1) := by decide +kernel
theorem dX5_loss_2 : decode cX5_loss 2 = .ok (.invokestatic 50, 3) := by decide +kernel
theorem dX5_loss_5 : decode cX5_loss 5 = .ok (.ifCond .ne 7, 3) := by decide +kernel
theorem dX5_loss_8 : decode cX5_loss 8 = .ok (.iconst 1, 1) := by decide +kernel
theorem dX5_loss_9 : decode cX5_loss 9 = .ok (.goto 18, 3) := by decide +kernel
theorem dX5_loss_12 : decode cX5_loss 12 = .ok (.iload_n 2, 1) := by decide +kernel
theorem dX5_loss_13 : decode cX5_loss 13 = .ok (.iconst 0, 1) := by decide +kernel
theorem dX5_loss_14 : decode cX5_loss 14 = .ok (.bipush 6, 2) := by decide +kernel
theorem dX5_loss_16 : decode cX5_loss 16 = .ok (.invokestatic 36, 3) := by decide +kernel
theorem dX5_loss_19 : decode cX5_loss 19 = .ok (.ifCond .eq 7, 3) := by decide +kernel
theorem dX5_loss_22 : decode cX5_loss 22 = .ok (.iconst 0, 1) := by decide +kernel
theorem dX5_loss_23 : decode cX5_loss 23 = .ok (.goto 4, 3) := by decide +kernel
theorem dX5_loss_26 : decode cX5_loss 26 = .ok (.iconst 2, 1) := by decide +kernel
theorem dX5_loss_27 : decode cX5_loss 27 = .ok (.invokevirtual 54, 3) := by decide +kernel
theorem dX5_loss_30 : decode cX5_loss 30 = .ok (.ifCond .eq 7, 3) := by decide +kernel
theorem dX5_loss_33 : decode cX5_loss 33 = .ok (.iconst 0, 1) := by decide +kernel
theorem dX5_loss_34 : decode cX5_loss 34 = .ok (.goto 12, 3) := by decide +kernel
theorem dX5_loss_37 : decode cX5_loss 37 = .ok (.aload_n 0, 1) := by decide +kernel
theorem dX5_loss_38 : decode cX5_loss 38 = .ok (.bipush 8, 2) := by decide +kernel
theorem dX5_loss_40 : decode cX5_loss 40 = .ok (.iload_n 1, 1) := by decide +kernel
theorem dX5_loss_41 : decode cX5_loss 41 = .ok (.iadd, 1) := by decide +kernel
theorem dX5_loss_42 : decode cX5_loss 42 = .ok (.iload_n 2, 1) := by decide +kernel
theorem dX5_loss_43 : decode cX5_loss 43 = .ok (.invokevirtual 57, 3) := by decide +kernel
theorem dX5_loss_46 : decode cX5_loss 46 = .ok (.ireturn, 1) := by decide +kernel
set_option maxRecDepth 20000 in
theorem ggX5_isValue_X5_in : GoodIn wsX5_isValue wsX5_in := goodIn_r _ [4] (by decide +kernel) (by decide +kernel)
set_option maxRecDepth 20000 in
theorem gX5_isValue_X5_in : GoodIn wsX5_isValue (va_wsS RX5 36 yX5_in wsX5_in) := goodIn_app (goodIn_of _ (by decide +kernel)) ggX5_isValue_X5_in
theorem dX5_isValue_0 : decode cX5_isValue 0 = .ok (.iload_n 0, 1) := by decide +kernel
theorem dX5_isValue_1 : decode cX5_isValue 1 = .ok (.ifCond .ne 13, 3) := by decide +kernel
theorem dX5_isValue_4 : decode cX5_isValue 4 = .ok (.iload_n 1, 1) := by decide +kernel
theorem dX5_isValue_5 : decode cX5_isValue 5 = .ok (.iconst 2, 1) := by decide +kernel
theorem dX5_isValue_6 : decode cX5_isValue 6 = .ok (.bipush 12, 2) := by decide +kernel
theorem dX5_isValue_8 : decode cX5_isValue 8 = .ok (.invokestatic 36, 3) := by decide +kernel
theorem dX5_isValue_11 : decode cX5_isValue 11 = .ok (.goto 25, 3) := by decide +kernel
theorem dX5_isValue_14 : decode cX5_isValue 14 = .ok (.iload_n 0, 1) := by decide +kernel
theorem dX5_isValue_15 : decode cX5_isValue 15 = .ok (.iconst 1, 1) := by decide +kernel
theorem dX5_isValue_16 : decode cX5_isValue 16 = .ok (.if_icmp .ne 12, 3) := by decide +kernel
theorem dX5_isValue_19 : decode cX5_isValue 19 = .ok (.iload_n 1, 1) := by decide +kernel
theorem dX5_isValue_20 : decode cX5_isValue 20 = .ok (.iconst 0, 1) := by decide +kernel
theorem dX5_isValue_21 : decode cX5_isValue 21 = .ok (.iconst 1, 1) := by decide +kernel
theorem dX5_isValue_22 : decode cX5_isValue 22 = .ok (.invokestatic 36, 3) := by decide +kernel
theorem dX5_isValue_25 : decode cX5_isValue 25 = .ok (.goto 11, 3) := by decide +kernel
theorem dX5_isValue_28 : decode cX5_isValue 28 = .ok (.iload_n 1, 1) := by decide +kernel
theorem dX5_isValue_29 : decode cX5_isValue 29 = .ok (.iconst 0, 1) := by decide +kernel
theorem dX5_isValue_30 : decode cX5_isValue 30 = .ok (.sipush 360, 3) := by decide +kernel
theorem dX5_isValue_33 : decode cX5_isValue 33 = .ok (.invokestatic 36, 3) := by decide +kernel
theorem dX5_isValue_36 : decode cX5_isValue 36 = .ok (.ireturn, 1) := by decide +kernel
set_option maxRecDepth 20000 in
theorem ggX5_set_X5_in : GoodIn wsX5_set wsX5_in := goodIn_r _ [4] (by decide +kernel) (by decide +kernel)
set_option maxRecDepth 20000 in
theorem gX5_set_X5_in : GoodIn wsX5_set (va_wsS RX5 36 yX5_in wsX5_in) := goodIn_app (goodIn_of _ (by decide +kernel)) ggX5_set_X5_in
set_option maxRecDepth 20000 in
theorem ggX5_set_X5_isValue : GoodIn wsX5_set wsX5_isValue := goodIn_r _ [7, 1, 2, 3, 4] (by decide +kernel) (by decide +kernel)
set_option maxRecDepth 20000 in
theorem gX5_set_X5_isValue : GoodIn wsX5_set (va_wsS RX5 61 yX5_isValue wsX5_isValue) := goodIn_app (goodIn_of _ (by decide +kernel)) ggX5_set_X5_isValue
set_option maxRecDepth 20000 in
theorem ggX5_set_X5_refused : GoodIn wsX5_set wsX5_refused := goodIn_r _ [11, 12, 27, 28, 29, 30, 31, 32, 33, 34, 35, 36, 37, 38, 39] (by decide +kernel) (by decide +kernel)
set_option maxRecDepth 20000 in
theorem gX5_set_X5_refused : GoodIn wsX5_set (wsV RX5 54 RX5 yX5_refused wsX5_refused) := goodIn_app (goodIn_of _ (by decide +kernel)) ggX5_set_X5_refused
set_option maxRecDepth 20000 in
theorem ggX5_set_X5_change : GoodIn wsX5_set wsX5_change := goodIn_r _ [16, 17, 18, 19, 20, 3, 21, 22, 23, 24, 25, 26, 27, 28, 29, 30, 31, 32, 33, 34, 35, 36, 37, 38, 39] (by decide +kernel) (by decide +kernel)
set_option maxRecDepth 20000 in
theorem gX5_set_X5_change : GoodIn wsX5_set (wsV RX5 57 RX5 yX5_change wsX5_change) := goodIn_app (goodIn_of _ (by decide +kernel)) ggX5_set_X5_change
theorem dX5_set_0 : decode cX5_set 0 = .ok (.aload_n 0, 1) := by decide +kernel
theorem dX5_set_1 : decode cX5_set 1 = .ok (.iload_n 1, 1) := by decide +kernel
theorem dX5_set_2 : decode cX5_set 2 = .ok (.iconst 0, 1) := by decide +kernel
theorem dX5_set_3 : decode cX5_set 3 = .ok (.iconst 2, 1) := by decide +kernel
theorem dX5_set_4 : decode cX5_set 4 = .ok (.invokestatic 36, 3) := by decide +kernel
theorem dX5_set_7 : decode cX5_set 7 = .ok (.ifCond .ne 7, 3) := by decide +kernel
theorem dX5_set_10 : decode cX5_set 10 = .ok (.iconst 1, 1) := by decide +kernel
theorem dX5_set_11 : decode cX5_set 11 = .ok (.goto 16, 3) := by decide +kernel
theorem dX5_set_14 : decode cX5_set 14 = .ok (.iload_n 1, 1) := by decide +kernel
theorem dX5_set_15 : decode cX5_set 15 = .ok (.iload_n 2, 1) := by decide +kernel
theorem dX5_set_16 : decode cX5_set 16 = .ok (.invokestatic 61, 3) := by decide +kernel
theorem dX5_set_19 : decode cX5_set 19 = .ok (.ifCond .eq 7, 3) := by decide +kernel
theorem dX5_set_22 : decode cX5_set 22 = .ok (.iconst 0, 1) := by decide +kernel
theorem dX5_set_23 : decode cX5_set 23 = .ok (.goto 4, 3) := by decide +kernel
theorem dX5_set_26 : decode cX5_set 26 = .ok (.iconst 2, 1) := by decide +kernel
theorem dX5_set_27 : decode cX5_set 27 = .ok (.invokevirtual 54, 3) := by decide +kernel
theorem dX5_set_30 : decode cX5_set 30 = .ok (.ifCond .eq 7, 3) := by decide +kernel
theorem dX5_set_33 : decode cX5_set 33 = .ok (.iconst 0, 1) := by decide +kernel
theorem dX5_set_34 : decode cX5_set 34 = .ok (.goto 12, 3) := by decide +kernel
theorem dX5_set_37 : decode cX5_set 37 = .ok (.aload_n 0, 1) := by decide +kernel
theorem dX5_set_38 : decode cX5_set 38 = .ok (.bipush 40, 2) := by decide +kernel
theorem dX5_set_40 : decode cX5_set 40 = .ok (.iload_n 1, 1) := by decide +kernel
theorem dX5_set_41 : decode cX5_set 41 = .ok (.iadd, 1) := by decide +kernel
theorem dX5_set_42 : decode cX5_set 42 = .ok (.iload_n 2, 1) := by decide +kernel
theorem dX5_set_43 : decode cX5_set 43 = .ok (.invokevirtual 57, 3) := by decide +kernel
theorem dX5_set_46 : decode cX5_set 46 = .ok (.ireturn, 1) := by decide +kernel
theorem dX5_pulses_0 : decode cX5_pulses 0 = .ok (.aload_n 0, 1) := by decide +kernel
theorem dX5_pulses_1 : decode cX5_pulses 1 = .ok (.getfield 26, 3) := by decide +kernel
theorem dX5_pulses_4 : decode cX5_pulses 4 = .ok (.iconst (-1), 1) := by decide +kernel
theorem dX5_pulses_5 : decode cX5_pulses 5 = .ok (.if_icmp .ne 13, 3) := by decide +kernel
theorem dX5_pulses_8 : decode cX5_pulses 8 = .ok (.aload_n 0, 1) := by decide +kernel
theorem dX5_pulses_9 : decode cX5_pulses 9 = .ok (.getfield 7, 3) := by decide +kernel
theorem dX5_pulses_12 : decode cX5_pulses 12 = .ok (.bipush 49, 2) := by decide +kernel
theorem dX5_pulses_14 : decode cX5_pulses 14 = .ok (.iaload, 1) := by decide +kernel
theorem dX5_pulses_15 : decode cX5_pulses 15 = .ok (.goto 5, 3) := by decide +kernel
theorem dX5_pulses_18 : decode cX5_pulses 18 = .ok (.bipush 96, 2) := by decide +kernel
theorem dX5_pulses_20 : decode cX5_pulses 20 = .ok (.ireturn, 1) := by decide +kernel
theorem dX5_pulseOf_0 : decode cX5_pulseOf 0 = .ok (.iload_n 0, 1) := by decide +kernel
theorem dX5_pulseOf_1 : decode cX5_pulseOf 1 = .ok (.bipush 11, 2) := by decide +kernel
theorem dX5_pulseOf_3 : decode cX5_pulseOf 3 = .ok (.iload_n 1, 1) := by decide +kernel
theorem dX5_pulseOf_4 : decode cX5_pulseOf 4 = .ok (.isub, 1) := by decide +kernel
theorem dX5_pulseOf_5 : decode cX5_pulseOf 5 = .ok (.ishr, 1) := by decide +kernel
theorem dX5_pulseOf_6 : decode cX5_pulseOf 6 = .ok (.iconst 1, 1) := by decide +kernel
theorem dX5_pulseOf_7 : decode cX5_pulseOf 7 = .ok (.iand, 1) := by decide +kernel
theorem dX5_pulseOf_8 : decode cX5_pulseOf 8 = .ok (.iconst 1, 1) := by decide +kernel
theorem dX5_pulseOf_9 : decode cX5_pulseOf 9 = .ok (.if_icmp .ne 8, 3) := by decide +kernel
theorem dX5_pulseOf_12 : decode cX5_pulseOf 12 = .ok (.bipush 8, 2) := by decide +kernel
theorem dX5_pulseOf_14 : decode cX5_pulseOf 14 = .ok (.goto 4, 3) := by decide +kernel
theorem dX5_pulseOf_17 : decode cX5_pulseOf 17 = .ok (.iconst 4, 1) := by decide +kernel
theorem dX5_pulseOf_18 : decode cX5_pulseOf 18 = .ok (.ireturn, 1) := by decide +kernel
set_option maxRecDepth 20000 in
theorem ggX5_lengthOf_X5_pulseOf : GoodIn wsX5_lengthOf wsX5_pulseOf := goodIn_r _ [6] (by decide +kernel) (by decide +kernel)
set_option maxRecDepth 20000 in
theorem gX5_lengthOf_X5_pulseOf : GoodIn wsX5_lengthOf (va_wsS RX5 65 yX5_pulseOf wsX5_pulseOf) := goodIn_app (goodIn_of _ (by decide +kernel)) ggX5_lengthOf_X5_pulseOf
theorem dX5_lengthOf_0 : decode cX5_lengthOf 0 = .ok (.aload_n 0, 1) := by decide +kernel
theorem dX5_lengthOf_1 : decode cX5_lengthOf 1 = .ok (.getfield 26, 3) := by decide +kernel
theorem dX5_lengthOf_4 : decode cX5_lengthOf 4 = .ok (.iconst (-1), 1) := by decide +kernel
theorem dX5_lengthOf_5 : decode cX5_lengthOf 5 = .ok (.if_icmp .ne 15, 3) := by decide +kernel
theorem dX5_lengthOf_8 : decode cX5_lengthOf 8 = .ok (.aload_n 0, 1) := by decide +kernel
theorem dX5_lengthOf_9 : decode cX5_lengthOf 9 = .ok (.getfield 7, 3) := by decide +kernel
theorem dX5_lengthOf_12 : decode cX5_lengthOf 12 = .ok (.bipush 50, 2) := by decide +kernel
theorem dX5_lengthOf_14 : decode cX5_lengthOf 14 = .ok (.iload_n 1, 1) := by decide +kernel
theorem dX5_lengthOf_15 : decode cX5_lengthOf 15 = .ok (.iadd, 1) := by decide +kernel
theorem dX5_lengthOf_16 : decode cX5_lengthOf 16 = .ok (.iaload, 1) := by decide +kernel
theorem dX5_lengthOf_17 : decode cX5_lengthOf 17 = .ok (.goto 14, 3) := by decide +kernel
theorem dX5_lengthOf_20 : decode cX5_lengthOf 20 = .ok (.aload_n 0, 1) := by decide +kernel
theorem dX5_lengthOf_21 : decode cX5_lengthOf 21 = .ok (.getfield 26, 3) := by decide +kernel
theorem dX5_lengthOf_24 : decode cX5_lengthOf 24 = .ok (.iload_n 1, 1) := by decide +kernel
theorem dX5_lengthOf_25 : decode cX5_lengthOf 25 = .ok (.bipush 12, 2) := by decide +kernel
theorem dX5_lengthOf_27 : decode cX5_lengthOf 27 = .ok (.irem, 1) := by decide +kernel
theorem dX5_lengthOf_28 : decode cX5_lengthOf 28 = .ok (.invokestatic 65, 3) := by decide +kernel
theorem dX5_lengthOf_31 : decode cX5_lengthOf 31 = .ok (.ireturn, 1) := by decide +kernel
theorem dX5_isTaker_0 : decode cX5_isTaker 0 = .ok (.aload_n 0, 1) := by decide +kernel
theorem dX5_isTaker_1 : decode cX5_isTaker 1 = .ok (.getfield 7, 3) := by decide +kernel
theorem dX5_isTaker_4 : decode cX5_isTaker 4 = .ok (.iconst 0, 1) := by decide +kernel
theorem dX5_isTaker_5 : decode cX5_isTaker 5 = .ok (.iload_n 1, 1) := by decide +kernel
theorem dX5_isTaker_6 : decode cX5_isTaker 6 = .ok (.iadd, 1) := by decide +kernel
theorem dX5_isTaker_7 : decode cX5_isTaker 7 = .ok (.iaload, 1) := by decide +kernel
theorem dX5_isTaker_8 : decode cX5_isTaker 8 = .ok (.ifCond .eq 15, 3) := by decide +kernel
theorem dX5_isTaker_11 : decode cX5_isTaker 11 = .ok (.aload_n 0, 1) := by decide +kernel
theorem dX5_isTaker_12 : decode cX5_isTaker 12 = .ok (.getfield 7, 3) := by decide +kernel
theorem dX5_isTaker_15 : decode cX5_isTaker 15 = .ok (.iconst 0, 1) := by decide +kernel
theorem dX5_isTaker_16 : decode cX5_isTaker 16 = .ok (.iload_n 1, 1) := by decide +kernel
theorem dX5_isTaker_17 : decode cX5_isTaker 17 = .ok (.iadd, 1) := by decide +kernel
theorem dX5_isTaker_18 : decode cX5_isTaker 18 = .ok (.iaload, 1) := by decide +kernel
theorem dX5_isTaker_19 : decode cX5_isTaker 19 = .ok (.iconst 1, 1) := by decide +kernel
theorem dX5_isTaker_20 : decode cX5_isTaker 20 = .ok (.if_icmp .ne 7, 3) := by decide +kernel
theorem dX5_isTaker_23 : decode cX5_isTaker 23 = .ok (.iconst 1, 1) := by decide +kernel
theorem dX5_isTaker_24 : decode cX5_isTaker 24 = .ok (.goto 4, 3) := by decide +kernel
theorem dX5_isTaker_27 : decode cX5_isTaker 27 = .ok (.iconst 0, 1) := by decide +kernel
theorem dX5_isTaker_28 : decode cX5_isTaker 28 = .ok (.ireturn, 1) := by decide +kernel
theorem dX5_isCut_0 : decode cX5_isCut 0 = .ok (.iconst 0, 1) := by decide +kernel
theorem dX5_isCut_1 : decode cX5_isCut 1 = .ok (.istore_n 2, 1) := by decide +kernel
theorem dX5_isCut_2 : decode cX5_isCut 2 = .ok (.iconst 0, 1) := by decide +kernel
theorem dX5_isCut_3 : decode cX5_isCut 3 = .ok (.istore_n 3, 1) := by decide +kernel
theorem dX5_isCut_4 : decode cX5_isCut 4 = .ok (.iload_n 3, 1) := by decide +kernel
theorem dX5_isCut_5 : decode cX5_isCut 5 = .ok (.iload_n 1, 1) := by decide +kernel
theorem dX5_isCut_6 : decode cX5_isCut 6 = .ok (.if_icmp .ge 31, 3) := by decide +kernel
theorem dX5_isCut_9 : decode cX5_isCut 9 = .ok (.iload_n 2, 1) := by decide +kernel
theorem dX5_isCut_10 : decode cX5_isCut 10 = .ok (.ifCond .ne 15, 3) := by decide +kernel
theorem dX5_isCut_13 : decode cX5_isCut 13 = .ok (.aload_n 0, 1) := by decide +kernel
theorem dX5_isCut_14 : decode cX5_isCut 14 = .ok (.getfield 7, 3) := by decide +kernel
theorem dX5_isCut_17 : decode cX5_isCut 17 = .ok (.iconst 0, 1) := by decide +kernel
theorem dX5_isCut_18 : decode cX5_isCut 18 = .ok (.iload_n 3, 1) := by decide +kernel
theorem dX5_isCut_19 : decode cX5_isCut 19 = .ok (.iadd, 1) := by decide +kernel
theorem dX5_isCut_20 : decode cX5_isCut 20 = .ok (.iaload, 1) := by decide +kernel
theorem dX5_isCut_21 : decode cX5_isCut 21 = .ok (.iconst 2, 1) := by decide +kernel
theorem dX5_isCut_22 : decode cX5_isCut 22 = .ok (.if_icmp .ne 7, 3) := by decide +kernel
theorem dX5_isCut_25 : decode cX5_isCut 25 = .ok (.iconst 1, 1) := by decide +kernel
theorem dX5_isCut_26 : decode cX5_isCut 26 = .ok (.goto 4, 3) := by decide +kernel
theorem dX5_isCut_29 : decode cX5_isCut 29 = .ok (.iconst 0, 1) := by decide +kernel
theorem dX5_isCut_30 : decode cX5_isCut 30 = .ok (.istore_n 2, 1) := by decide +kernel
theorem dX5_isCut_31 : decode cX5_isCut 31 = .ok (.iinc 3 1, 3) := by decide +kernel
theorem dX5_isCut_34 : decode cX5_isCut 34 = .ok (.goto (-30), 3) := by decide +kernel
theorem dX5_isCut_37 : decode cX5_isCut 37 = .ok (.iload_n 2, 1) := by decide +kernel
theorem dX5_isCut_38 : decode cX5_isCut 38 = .ok (.ireturn, 1) := by decide +kernel
set_option maxRecDepth 20000 in
theorem ggX5_takersAhead_X5_isTaker : GoodIn wsX5_takersAhead wsX5_isTaker := goodIn_r _ [5, 6, 7, 8, 9, 10, 11, 12, 13, 14, 15, 16, 17, 18, 19] (by decide +kernel) (by decide +kernel)
set_option maxRecDepth 20000 in
theorem gX5_takersAhead_X5_isTaker : GoodIn wsX5_takersAhead (wsV RX5 68 RX5 yX5_isTaker wsX5_isTaker) := goodIn_app (goodIn_of _ (by decide +kernel)) ggX5_takersAhead_X5_isTaker
theorem dX5_takersAhead_0 : decode cX5_takersAhead 0 = .ok (.iconst 0, 1) := by decide +kernel
theorem dX5_takersAhead_1 : decode cX5_takersAhead 1 = .ok (.istore_n 2, 1) := by decide +kernel
theorem dX5_takersAhead_2 : decode cX5_takersAhead 2 = .ok (.iconst 0, 1) := by decide +kernel
theorem dX5_takersAhead_3 : decode cX5_takersAhead 3 = .ok (.istore_n 3, 1) := by decide +kernel
theorem dX5_takersAhead_4 : decode cX5_takersAhead 4 = .ok (.iload_n 3, 1) := by decide +kernel
theorem dX5_takersAhead_5 : decode cX5_takersAhead 5 = .ok (.iload_n 1, 1) := by decide +kernel
theorem dX5_takersAhead_6 : decode cX5_takersAhead 6 = .ok (.if_icmp .ge 25, 3) := by decide +kernel
theorem dX5_takersAhead_9 : decode cX5_takersAhead 9 = .ok (.iload_n 2, 1) := by decide +kernel
theorem dX5_takersAhead_10 : decode cX5_takersAhead 10 = .ok (.aload_n 0, 1) := by decide +kernel
theorem dX5_takersAhead_11 : decode cX5_takersAhead 11 = .ok (.iload_n 3, 1) := by decide +kernel
theorem dX5_takersAhead_12 : decode cX5_takersAhead 12 = .ok (.invokevirtual 68, 3) := by decide +kernel
theorem dX5_takersAhead_15 : decode cX5_takersAhead 15 = .ok (.ifCond .eq 7, 3) := by decide +kernel
theorem dX5_takersAhead_18 : decode cX5_takersAhead 18 = .ok (.iconst 1, 1) := by decide +kernel
theorem dX5_takersAhead_19 : decode cX5_takersAhead 19 = .ok (.goto 4, 3) := by decide +kernel
theorem dX5_takersAhead_22 : decode cX5_takersAhead 22 = .ok (.iconst 0, 1) := by decide +kernel
theorem dX5_takersAhead_23 : decode cX5_takersAhead 23 = .ok (.iadd, 1) := by decide +kernel
theorem dX5_takersAhead_24 : decode cX5_takersAhead 24 = .ok (.istore_n 2, 1) := by decide +kernel
theorem dX5_takersAhead_25 : decode cX5_takersAhead 25 = .ok (.iinc 3 1, 3) := by decide +kernel
theorem dX5_takersAhead_28 : decode cX5_takersAhead 28 = .ok (.goto (-24), 3) := by decide +kernel
theorem dX5_takersAhead_31 : decode cX5_takersAhead 31 = .ok (.iload_n 2, 1) := by decide +kernel
theorem dX5_takersAhead_32 : decode cX5_takersAhead 32 = .ok (.ireturn, 1) := by decide +kernel
set_option maxRecDepth 20000 in
theorem ggX5_comes_X5_pulses : GoodIn wsX5_comes wsX5_pulses := goodIn_r _ [5, 6, 7, 20, 21, 22, 23, 24, 25, 26, 27, 28, 29, 30, 31, 32] (by decide +kernel) (by decide +kernel)
set_option maxRecDepth 20000 in
theorem gX5_comes_X5_pulses : GoodIn wsX5_comes (wsV RX5 71 RX5 yX5_pulses wsX5_pulses) := goodIn_app (goodIn_of _ (by decide +kernel)) ggX5_comes_X5_pulses
set_option maxRecDepth 20000 in
theorem ggX5_comes_X5_takersAhead : GoodIn wsX5_comes wsX5_takersAhead := goodIn_r _ [11, 12, 13, 14, 4, 15, 7, 20, 21, 22, 23, 24, 25, 26, 27, 28, 29, 30, 31, 32] (by decide +kernel) (by decide +kernel)
set_option maxRecDepth 20000 in
theorem gX5_comes_X5_takersAhead : GoodIn wsX5_comes (wsV RX5 75 RX5 yX5_takersAhead wsX5_takersAhead) := goodIn_app (goodIn_of _ (by decide +kernel)) ggX5_comes_X5_takersAhead
set_option maxRecDepth 20000 in
theorem ggX5_comes_X5_isCut : GoodIn wsX5_comes wsX5_isCut := goodIn_r _ [19, 7, 20, 21, 22, 23, 24, 25, 26, 27, 28, 29, 30, 31, 32] (by decide +kernel) (by decide +kernel)
set_option maxRecDepth 20000 in
theorem gX5_comes_X5_isCut : GoodIn wsX5_comes (wsV RX5 79 RX5 yX5_isCut wsX5_isCut) := goodIn_app (goodIn_of _ (by decide +kernel)) ggX5_comes_X5_isCut
theorem dX5_comes_0 : decode cX5_comes 0 = .ok (.aload_n 0, 1) := by decide +kernel
theorem dX5_comes_1 : decode cX5_comes 1 = .ok (.invokevirtual 71, 3) := by decide +kernel
theorem dX5_comes_4 : decode cX5_comes 4 = .ok (.bipush 12, 2) := by decide +kernel
theorem dX5_comes_6 : decode cX5_comes 6 = .ok (.aload_n 0, 1) := by decide +kernel
theorem dX5_comes_7 : decode cX5_comes 7 = .ok (.iload_n 1, 1) := by decide +kernel
theorem dX5_comes_8 : decode cX5_comes 8 = .ok (.invokevirtual 75, 3) := by decide +kernel
theorem dX5_comes_11 : decode cX5_comes 11 = .ok (.imul, 1) := by decide +kernel
theorem dX5_comes_12 : decode cX5_comes 12 = .ok (.isub, 1) := by decide +kernel
theorem dX5_comes_13 : decode cX5_comes 13 = .ok (.istore_n 2, 1) := by decide +kernel
theorem dX5_comes_14 : decode cX5_comes 14 = .ok (.aload_n 0, 1) := by decide +kernel
theorem dX5_comes_15 : decode cX5_comes 15 = .ok (.iload_n 1, 1) := by decide +kernel
theorem dX5_comes_16 : decode cX5_comes 16 = .ok (.invokevirtual 79, 3) := by decide +kernel
theorem dX5_comes_19 : decode cX5_comes 19 = .ok (.ifCond .ne 7, 3) := by decide +kernel
theorem dX5_comes_22 : decode cX5_comes 22 = .ok (.iload_n 2, 1) := by decide +kernel
theorem dX5_comes_23 : decode cX5_comes 23 = .ok (.ifCond .ge 7, 3) := by decide +kernel
theorem dX5_comes_26 : decode cX5_comes 26 = .ok (.iconst 0, 1) := by decide +kernel
theorem dX5_comes_27 : decode cX5_comes 27 = .ok (.goto 4, 3) := by decide +kernel
theorem dX5_comes_30 : decode cX5_comes 30 = .ok (.iload_n 2, 1) := by decide +kernel
theorem dX5_comes_31 : decode cX5_comes 31 = .ok (.ireturn, 1) := by decide +kernel
set_option maxRecDepth 20000 in
theorem ggX5_arrives_X5_lengthOf : GoodIn wsX5_arrives wsX5_lengthOf := goodIn_r _ [6, 7, 1, 8, 9, 5, 10, 15, 16, 17, 18, 19, 20, 21, 22, 23, 24, 25, 26, 27] (by decide +kernel) (by decide +kernel)
set_option maxRecDepth 20000 in
theorem gX5_arrives_X5_lengthOf : GoodIn wsX5_arrives (wsV RX5 82 RX5 yX5_lengthOf wsX5_lengthOf) := goodIn_app (goodIn_of _ (by decide +kernel)) ggX5_arrives_X5_lengthOf
set_option maxRecDepth 20000 in
theorem ggX5_arrives_X5_isTaker : GoodIn wsX5_arrives wsX5_isTaker := goodIn_r _ [14, 1, 15, 16, 17, 18, 19, 20, 21, 22, 23, 24, 25, 26, 27] (by decide +kernel) (by decide +kernel)
set_option maxRecDepth 20000 in
theorem gX5_arrives_X5_isTaker : GoodIn wsX5_arrives (wsV RX5 68 RX5 yX5_isTaker wsX5_isTaker) := goodIn_app (goodIn_of _ (by decide +kernel)) ggX5_arrives_X5_isTaker
theorem dX5_arrives_0 : decode cX5_arrives 0 = .ok (.aload_n 0, 1) := by decide +kernel
theorem dX5_arrives_1 : decode cX5_arrives 1 = .ok (.iload_n 2, 1) := by decide +kernel
theorem dX5_arrives_2 : decode cX5_arrives 2 = .ok (.invokevirtual 82, 3) := by decide +kernel
theorem dX5_arrives_5 : decode cX5_arrives 5 = .ok (.istore_n 3, 1) := by decide +kernel
theorem dX5_arrives_6 : decode cX5_arrives 6 = .ok (.iconst 0, 1) := by decide +kernel
theorem dX5_arrives_7 : decode cX5_arrives 7 = .ok (.istore 4, 2) := by decide +kernel
theorem dX5_arrives_9 : decode cX5_arrives 9 = .ok (.iload 4, 2) := by decide +kernel
theorem dX5_arrives_11 : decode cX5_arrives 11 = .ok (.iload_n 1, 1) := by decide +kernel
theorem dX5_arrives_12 : decode cX5_arrives 12 = .ok (.if_icmp .gt 86, 3) := by decide +kernel
theorem dX5_arrives_15 : decode cX5_arrives 15 = .ok (.iload_n 3, 1) := by decide +kernel
theorem dX5_arrives_16 : decode cX5_arrives 16 = .ok (.aload_n 0, 1) := by decide +kernel
theorem dX5_arrives_17 : decode cX5_arrives 17 = .ok (.getfield 7, 3) := by decide +kernel
theorem dX5_arrives_20 : decode cX5_arrives 20 = .ok (.bipush 8, 2) := by decide +kernel
theorem dX5_arrives_22 : decode cX5_arrives 22 = .ok (.iload 4, 2) := by decide +kernel
theorem dX5_arrives_24 : decode cX5_arrives 24 = .ok (.iadd, 1) := by decide +kernel
theorem dX5_arrives_25 : decode cX5_arrives 25 = .ok (.iaload, 1) := by decide +kernel
theorem dX5_arrives_26 : decode cX5_arrives 26 = .ok (.isub, 1) := by decide +kernel
theorem dX5_arrives_27 : decode cX5_arrives 27 = .ok (.iconst 1, 1) := by decide +kernel
theorem dX5_arrives_28 : decode cX5_arrives 28 = .ok (.if_icmp .ge 7, 3) := by decide +kernel
theorem dX5_arrives_31 : decode cX5_arrives 31 = .ok (.iconst 1, 1) := by decide +kernel
theorem dX5_arrives_32 : decode cX5_arrives 32 = .ok (.goto 15, 3) := by decide +kernel
theorem dX5_arrives_35 : decode cX5_arrives 35 = .ok (.iload_n 3, 1) := by decide +kernel
theorem dX5_arrives_36 : decode cX5_arrives 36 = .ok (.aload_n 0, 1) := by decide +kernel
theorem dX5_arrives_37 : decode cX5_arrives 37 = .ok (.getfield 7, 3) := by decide +kernel
theorem dX5_arrives_40 : decode cX5_arrives 40 = .ok (.bipush 8, 2) := by decide +kernel
theorem dX5_arrives_42 : decode cX5_arrives 42 = .ok (.iload 4, 2) := by decide +kernel
theorem dX5_arrives_44 : decode cX5_arrives 44 = .ok (.iadd, 1) := by decide +kernel
theorem dX5_arrives_45 : decode cX5_arrives 45 = .ok (.iaload, 1) := by decide +kernel
theorem dX5_arrives_46 : decode cX5_arrives 46 = .ok (.isub, 1) := by decide +kernel
theorem dX5_arrives_47 : decode cX5_arrives 47 = .ok (.istore_n 3, 1) := by decide +kernel
theorem dX5_arrives_48 : decode cX5_arrives 48 = .ok (.iload 4, 2) := by decide +kernel
theorem dX5_arrives_50 : decode cX5_arrives 50 = .ok (.iload_n 1, 1) := by decide +kernel
theorem dX5_arrives_51 : decode cX5_arrives 51 = .ok (.if_icmp .ge 41, 3) := by decide +kernel
theorem dX5_arrives_54 : decode cX5_arrives 54 = .ok (.aload_n 0, 1) := by decide +kernel
theorem dX5_arrives_55 : decode cX5_arrives 55 = .ok (.iload 4, 2) := by decide +kernel
theorem dX5_arrives_57 : decode cX5_arrives 57 = .ok (.invokevirtual 68, 3) := by decide +kernel
theorem dX5_arrives_60 : decode cX5_arrives 60 = .ok (.ifCond .eq 32, 3) := by decide +kernel
theorem dX5_arrives_63 : decode cX5_arrives 63 = .ok (.aload_n 0, 1) := by decide +kernel
theorem dX5_arrives_64 : decode cX5_arrives 64 = .ok (.getfield 7, 3) := by decide +kernel
theorem dX5_arrives_67 : decode cX5_arrives 67 = .ok (.bipush 41, 2) := by decide +kernel
theorem dX5_arrives_69 : decode cX5_arrives 69 = .ok (.iaload, 1) := by decide +kernel
theorem dX5_arrives_70 : decode cX5_arrives 70 = .ok (.iconst 1, 1) := by decide +kernel
theorem dX5_arrives_71 : decode cX5_arrives 71 = .ok (.if_icmp .ne 21, 3) := by decide +kernel
theorem dX5_arrives_74 : decode cX5_arrives 74 = .ok (.iload_n 3, 1) := by decide +kernel
theorem dX5_arrives_75 : decode cX5_arrives 75 = .ok (.aload_n 0, 1) := by decide +kernel
theorem dX5_arrives_76 : decode cX5_arrives 76 = .ok (.getfield 7, 3) := by decide +kernel
theorem dX5_arrives_79 : decode cX5_arrives 79 = .ok (.bipush 40, 2) := by decide +kernel
theorem dX5_arrives_81 : decode cX5_arrives 81 = .ok (.iaload, 1) := by decide +kernel
theorem dX5_arrives_82 : decode cX5_arrives 82 = .ok (.if_icmp .lt 8, 3) := by decide +kernel
theorem dX5_arrives_85 : decode cX5_arrives 85 = .ok (.bipush 8, 2) := by decide +kernel
theorem dX5_arrives_87 : decode cX5_arrives 87 = .ok (.goto 4, 3) := by decide +kernel
theorem dX5_arrives_90 : decode cX5_arrives 90 = .ok (.iconst 4, 1) := by decide +kernel
theorem dX5_arrives_91 : decode cX5_arrives 91 = .ok (.istore_n 3, 1) := by decide +kernel
theorem dX5_arrives_92 : decode cX5_arrives 92 = .ok (.iinc 4 1, 3) := by decide +kernel
theorem dX5_arrives_95 : decode cX5_arrives 95 = .ok (.goto (-86), 3) := by decide +kernel
theorem dX5_arrives_98 : decode cX5_arrives 98 = .ok (.iload_n 3, 1) := by decide +kernel
theorem dX5_arrives_99 : decode cX5_arrives 99 = .ok (.ireturn, 1) := by decide +kernel
set_option maxRecDepth 20000 in
theorem ggX5_takes_X5_isTaker : GoodIn wsX5_takes wsX5_isTaker := goodIn_r _ [5, 6, 24, 25, 26, 27, 28, 29, 30, 31, 32, 33, 34, 35, 36] (by decide +kernel) (by decide +kernel)
set_option maxRecDepth 20000 in
theorem gX5_takes_X5_isTaker : GoodIn wsX5_takes (wsV RX5 68 RX5 yX5_isTaker wsX5_isTaker) := goodIn_app (goodIn_of _ (by decide +kernel)) ggX5_takes_X5_isTaker
set_option maxRecDepth 20000 in
theorem ggX5_takes_X5_comes : GoodIn wsX5_takes wsX5_comes := goodIn_r _ [10, 11, 12, 13, 4, 14, 15, 6, 16, 17, 18, 19, 1, 2, 3, 5, 20, 21, 22, 23, 24, 25, 26, 27, 28, 29, 30, 31, 32, 33, 34, 35, 36] (by decide +kernel) (by decide +kernel)
set_option maxRecDepth 20000 in
theorem gX5_takes_X5_comes : GoodIn wsX5_takes (wsV RX5 85 RX5 yX5_comes wsX5_comes) := goodIn_app (goodIn_of _ (by decide +kernel)) ggX5_takes_X5_comes
theorem dX5_takes_0 : decode cX5_takes 0 = .ok (.aload_n 0, 1) := by decide +kernel
theorem dX5_takes_1 : decode cX5_takes 1 = .ok (.iload_n 1, 1) := by decide +kernel
theorem dX5_takes_2 : decode cX5_takes 2 = .ok (.invokevirtual 68, 3) := by decide +kernel
theorem dX5_takes_5 : decode cX5_takes 5 = .ok (.ifCond .eq 17, 3) := by decide +kernel
theorem dX5_takes_8 : decode cX5_takes 8 = .ok (.aload_n 0, 1) := by decide +kernel
theorem dX5_takes_9 : decode cX5_takes 9 = .ok (.iload_n 1, 1) := by decide +kernel
theorem dX5_takes_10 : decode cX5_takes 10 = .ok (.invokevirtual 85, 3) := by decide +kernel
theorem dX5_takes_13 : decode cX5_takes 13 = .ok (.bipush 12, 2) := by decide +kernel
theorem dX5_takes_15 : decode cX5_takes 15 = .ok (.if_icmp .lt 7, 3) := by decide +kernel
theorem dX5_takes_18 : decode cX5_takes 18 = .ok (.iconst 1, 1) := by decide +kernel
theorem dX5_takes_19 : decode cX5_takes 19 = .ok (.goto 4, 3) := by decide +kernel
theorem dX5_takes_22 : decode cX5_takes 22 = .ok (.iconst 0, 1) := by decide +kernel
theorem dX5_takes_23 : decode cX5_takes 23 = .ok (.ireturn, 1) := by decide +kernel
set_option maxRecDepth 20000 in
theorem ggX5_wordBehind_X5_takes : GoodIn wsX5_wordBehind wsX5_takes := goodIn_r _ [6, 7, 8, 9, 5, 10, 1, 11, 12, 13, 14, 15, 16, 17, 18, 19, 20, 21, 22, 23, 24, 25, 26, 27, 39, 40, 41, 42, 43, 44, 45, 46, 47, 48, 49, 50, 51] (by decide +kernel) (by decide +kernel)
set_option maxRecDepth 20000 in
theorem gX5_wordBehind_X5_takes : GoodIn wsX5_wordBehind (wsV RX5 88 RX5 yX5_takes wsX5_takes) := goodIn_app (goodIn_of _ (by decide +kernel)) ggX5_wordBehind_X5_takes
set_option maxRecDepth 20000 in
theorem ggX5_wordBehind_X5_takersAhead : GoodIn wsX5_wordBehind wsX5_takersAhead := goodIn_r _ [23, 7, 8, 9, 5, 10, 1, 39, 40, 41, 42, 43, 44, 45, 46, 47, 48, 49, 50, 51] (by decide +kernel) (by decide +kernel)
set_option maxRecDepth 20000 in
theorem gX5_wordBehind_X5_takersAhead : GoodIn wsX5_wordBehind (wsV RX5 75 RX5 yX5_takersAhead wsX5_takersAhead) := goodIn_app (goodIn_of _ (by decide +kernel)) ggX5_wordBehind_X5_takersAhead
set_option maxRecDepth 20000 in
theorem ggX5_wordBehind_X5_arrives : GoodIn wsX5_wordBehind wsX5_arrives := goodIn_r _ [31, 1, 32, 33, 34, 5, 35, 19, 36, 37, 38, 7, 8, 9, 10, 39, 40, 41, 42, 43, 44, 45, 46, 47, 48, 49, 50, 51] (by decide +kernel) (by decide +kernel)
set_option maxRecDepth 20000 in
theorem gX5_wordBehind_X5_arrives : GoodIn wsX5_wordBehind (wsV RX5 91 RX5 yX5_arrives wsX5_arrives) := goodIn_app (goodIn_of _ (by decide +kernel)) ggX5_wordBehind_X5_arrives
theorem dX5_wordBehind_0 : decode cX5_wordBehind 0 = .ok (.aload_n 0, 1) := by decide +kernel
theorem dX5_wordBehind_1 : decode cX5_wordBehind 1 = .ok (.iload_n 1, 1) := by decide +kernel
theorem dX5_wordBehind_2 : decode cX5_wordBehind 2 = .ok (.invokevirtual 88, 3) := by decide +kernel
theorem dX5_wordBehind_5 : decode cX5_wordBehind 5 = .ok (.ifCond .ne 13, 3) := by decide +kernel
theorem dX5_wordBehind_8 : decode cX5_wordBehind 8 = .ok (.aload_n 0, 1) := by decide +kernel
theorem dX5_wordBehind_9 : decode cX5_wordBehind 9 = .ok (.getfield 7, 3) := by decide +kernel
theorem dX5_wordBehind_12 : decode cX5_wordBehind 12 = .ok (.bipush 16, 2) := by decide +kernel
theorem dX5_wordBehind_14 : decode cX5_wordBehind 14 = .ok (.iload_n 1, 1) := by decide +kernel
theorem dX5_wordBehind_15 : decode cX5_wordBehind 15 = .ok (.iadd, 1) := by decide +kernel
theorem dX5_wordBehind_16 : decode cX5_wordBehind 16 = .ok (.iaload, 1) := by decide +kernel
theorem dX5_wordBehind_17 : decode cX5_wordBehind 17 = .ok (.ireturn, 1) := by decide +kernel
theorem dX5_wordBehind_18 : decode cX5_wordBehind 18 = .ok (.bipush 12, 2) := by decide +kernel
theorem dX5_wordBehind_20 : decode cX5_wordBehind 20 = .ok (.aload_n 0, 1) := by decide +kernel
theorem dX5_wordBehind_21 : decode cX5_wordBehind 21 = .ok (.iload_n 1, 1) := by decide +kernel
theorem dX5_wordBehind_22 : decode cX5_wordBehind 22 = .ok (.invokevirtual 75, 3) := by decide +kernel
theorem dX5_wordBehind_25 : decode cX5_wordBehind 25 = .ok (.imul, 1) := by decide +kernel
theorem dX5_wordBehind_26 : decode cX5_wordBehind 26 = .ok (.istore_n 2, 1) := by decide +kernel
theorem dX5_wordBehind_27 : decode cX5_wordBehind 27 = .ok (.iconst 0, 1) := by decide +kernel
theorem dX5_wordBehind_28 : decode cX5_wordBehind 28 = .ok (.istore_n 3, 1) := by decide +kernel
theorem dX5_wordBehind_29 : decode cX5_wordBehind 29 = .ok (.iconst 0, 1) := by decide +kernel
theorem dX5_wordBehind_30 : decode cX5_wordBehind 30 = .ok (.istore 4, 2) := by decide +kernel
theorem dX5_wordBehind_32 : decode cX5_wordBehind 32 = .ok (.iload 4, 2) := by decide +kernel
theorem dX5_wordBehind_34 : decode cX5_wordBehind 34 = .ok (.bipush 12, 2) := by decide +kernel
theorem dX5_wordBehind_36 : decode cX5_wordBehind 36 = .ok (.if_icmp .ge 38, 3) := by decide +kernel
theorem dX5_wordBehind_39 : decode cX5_wordBehind 39 = .ok (.iconst 2, 1) := by decide +kernel
theorem dX5_wordBehind_40 : decode cX5_wordBehind 40 = .ok (.iload_n 3, 1) := by decide +kernel
theorem dX5_wordBehind_41 : decode cX5_wordBehind 41 = .ok (.imul, 1) := by decide +kernel
theorem dX5_wordBehind_42 : decode cX5_wordBehind 42 = .ok (.aload_n 0, 1) := by decide +kernel
theorem dX5_wordBehind_43 : decode cX5_wordBehind 43 = .ok (.iload_n 1, 1) := by decide +kernel
theorem dX5_wordBehind_44 : decode cX5_wordBehind 44 = .ok (.iload_n 2, 1) := by decide +kernel
theorem dX5_wordBehind_45 : decode cX5_wordBehind 45 = .ok (.iload 4, 2) := by decide +kernel
theorem dX5_wordBehind_47 : decode cX5_wordBehind 47 = .ok (.iadd, 1) := by decide +kernel
theorem dX5_wordBehind_48 : decode cX5_wordBehind 48 = .ok (.invokevirtual 91, 3) := by decide +kernel
theorem dX5_wordBehind_51 : decode cX5_wordBehind 51 = .ok (.aload_n 0, 1) := by decide +kernel
theorem dX5_wordBehind_52 : decode cX5_wordBehind 52 = .ok (.getfield 7, 3) := by decide +kernel
theorem dX5_wordBehind_55 : decode cX5_wordBehind 55 = .ok (.bipush 40, 2) := by decide +kernel
theorem dX5_wordBehind_57 : decode cX5_wordBehind 57 = .ok (.iaload, 1) := by decide +kernel
theorem dX5_wordBehind_58 : decode cX5_wordBehind 58 = .ok (.if_icmp .lt 7, 3) := by decide +kernel
theorem dX5_wordBehind_61 : decode cX5_wordBehind 61 = .ok (.iconst 1, 1) := by decide +kernel
theorem dX5_wordBehind_62 : decode cX5_wordBehind 62 = .ok (.goto 4, 3) := by decide +kernel
theorem dX5_wordBehind_65 : decode cX5_wordBehind 65 = .ok (.iconst 0, 1) := by decide +kernel
theorem dX5_wordBehind_66 : decode cX5_wordBehind 66 = .ok (.iadd, 1) := by decide +kernel
theorem dX5_wordBehind_67 : decode cX5_wordBehind 67 = .ok (.istore_n 3, 1) := by decide +kernel
theorem dX5_wordBehind_68 : decode cX5_wordBehind 68 = .ok (.iinc 4 1, 3) := by decide +kernel
theorem dX5_wordBehind_71 : decode cX5_wordBehind 71 = .ok (.goto (-39), 3) := by decide +kernel
theorem dX5_wordBehind_74 : decode cX5_wordBehind 74 = .ok (.iload_n 3, 1) := by decide +kernel
theorem dX5_wordBehind_75 : decode cX5_wordBehind 75 = .ok (.ireturn, 1) := by decide +kernel
set_option maxRecDepth 20000 in
theorem ggX5_takers_X5_takes : GoodIn wsX5_takers wsX5_takes := goodIn_r _ [5, 6, 7, 8, 4, 9, 10, 11, 12, 13, 14, 15, 16, 17, 18, 19, 20, 21, 22, 23, 24, 25, 26, 27, 28, 29, 30, 31, 32, 33, 34, 35, 36, 37, 38, 39, 40] (by decide +kernel) (by decide +kernel)
set_option maxRecDepth 20000 in
theorem gX5_takers_X5_takes : GoodIn wsX5_takers (wsV RX5 88 RX5 yX5_takes wsX5_takes) := goodIn_app (goodIn_of _ (by decide +kernel)) ggX5_takers_X5_takes
theorem dX5_takers_0 : decode cX5_takers 0 = .ok (.iconst 0, 1) := by decide +kernel
theorem dX5_takers_1 : decode cX5_takers 1 = .ok (.istore_n 1, 1) := by decide +kernel
theorem dX5_takers_2 : decode cX5_takers 2 = .ok (.iconst 0, 1) := by decide +kernel
theorem dX5_takers_3 : decode cX5_takers 3 = .ok (.istore_n 2, 1) := by decide +kernel
theorem dX5_takers_4 : decode cX5_takers 4 = .ok (.iload_n 2, 1) := by decide +kernel
theorem dX5_takers_5 : decode cX5_takers 5 = .ok (.bipush 8, 2) := by decide +kernel
theorem dX5_takers_7 : decode cX5_takers 7 = .ok (.if_icmp .ge 25, 3) := by decide +kernel
theorem dX5_takers_10 : decode cX5_takers 10 = .ok (.iload_n 1, 1) := by decide +kernel
theorem dX5_takers_11 : decode cX5_takers 11 = .ok (.aload_n 0, 1) := by decide +kernel
theorem dX5_takers_12 : decode cX5_takers 12 = .ok (.iload_n 2, 1) := by decide +kernel
theorem dX5_takers_13 : decode cX5_takers 13 = .ok (.invokevirtual 88, 3) := by decide +kernel
theorem dX5_takers_16 : decode cX5_takers 16 = .ok (.ifCond .eq 7, 3) := by decide +kernel
theorem dX5_takers_19 : decode cX5_takers 19 = .ok (.iconst 1, 1) := by decide +kernel
theorem dX5_takers_20 : decode cX5_takers 20 = .ok (.goto 4, 3) := by decide +kernel
theorem dX5_takers_23 : decode cX5_takers 23 = .ok (.iconst 0, 1) := by decide +kernel
theorem dX5_takers_24 : decode cX5_takers 24 = .ok (.iadd, 1) := by decide +kernel
theorem dX5_takers_25 : decode cX5_takers 25 = .ok (.istore_n 1, 1) := by decide +kernel
theorem dX5_takers_26 : decode cX5_takers 26 = .ok (.iinc 2 1, 3) := by decide +kernel
theorem dX5_takers_29 : decode cX5_takers 29 = .ok (.goto (-25), 3) := by decide +kernel
theorem dX5_takers_32 : decode cX5_takers 32 = .ok (.iload_n 1, 1) := by decide +kernel
theorem dX5_takers_33 : decode cX5_takers 33 = .ok (.ireturn, 1) := by decide +kernel
theorem dX5_addPulse_0 : decode cX5_addPulse 0 = .ok (.aload_n 0, 1) := by decide +kernel
theorem dX5_addPulse_1 : decode cX5_addPulse 1 = .ok (.getfield 7, 3) := by decide +kernel
theorem dX5_addPulse_4 : decode cX5_addPulse 4 = .ok (.bipush 50, 2) := by decide +kernel
theorem dX5_addPulse_6 : decode cX5_addPulse 6 = .ok (.aload_n 0, 1) := by decide +kernel
theorem dX5_addPulse_7 : decode cX5_addPulse 7 = .ok (.getfield 7, 3) := by decide +kernel
theorem dX5_addPulse_10 : decode cX5_addPulse 10 = .ok (.bipush 49, 2) := by decide +kernel
theorem dX5_addPulse_12 : decode cX5_addPulse 12 = .ok (.iaload, 1) := by decide +kernel
theorem dX5_addPulse_13 : decode cX5_addPulse 13 = .ok (.iadd, 1) := by decide +kernel
theorem dX5_addPulse_14 : decode cX5_addPulse 14 = .ok (.iload_n 1, 1) := by decide +kernel
theorem dX5_addPulse_15 : decode cX5_addPulse 15 = .ok (.iastore, 1) := by decide +kernel
theorem dX5_addPulse_16 : decode cX5_addPulse 16 = .ok (.aload_n 0, 1) := by decide +kernel
theorem dX5_addPulse_17 : decode cX5_addPulse 17 = .ok (.getfield 7, 3) := by decide +kernel
theorem dX5_addPulse_20 : decode cX5_addPulse 20 = .ok (.bipush 49, 2) := by decide +kernel
theorem dX5_addPulse_22 : decode cX5_addPulse 22 = .ok (.dup2, 1) := by decide +kernel
theorem dX5_addPulse_23 : decode cX5_addPulse 23 = .ok (.iaload, 1) := by decide +kernel
theorem dX5_addPulse_24 : decode cX5_addPulse 24 = .ok (.iconst 1, 1) := by decide +kernel
theorem dX5_addPulse_25 : decode cX5_addPulse 25 = .ok (.iadd, 1) := by decide +kernel
theorem dX5_addPulse_26 : decode cX5_addPulse 26 = .ok (.iastore, 1) := by decide +kernel
theorem dX5_addPulse_27 : decode cX5_addPulse 27 = .ok (.aload_n 0, 1) := by decide +kernel
theorem dX5_addPulse_28 : decode cX5_addPulse 28 = .ok (.getfield 7, 3) := by decide +kernel
theorem dX5_addPulse_31 : decode cX5_addPulse 31 = .ok (.bipush 44, 2) := by decide +kernel
theorem dX5_addPulse_33 : decode cX5_addPulse 33 = .ok (.dup2, 1) := by decide +kernel
theorem dX5_addPulse_34 : decode cX5_addPulse 34 = .ok (.iaload, 1) := by decide +kernel
theorem dX5_addPulse_35 : decode cX5_addPulse 35 = .ok (.iconst 1, 1) := by decide +kernel
theorem dX5_addPulse_36 : decode cX5_addPulse 36 = .ok (.iadd, 1) := by decide +kernel
theorem dX5_addPulse_37 : decode cX5_addPulse 37 = .ok (.iastore, 1) := by decide +kernel
theorem dX5_addPulse_38 : decode cX5_addPulse 38 = .ok (.return_, 1) := by decide +kernel
set_option maxRecDepth 20000 in
theorem ggX5_sendNow_X5_pulseOf : GoodIn wsX5_sendNow wsX5_pulseOf := goodIn_r _ [4] (by decide +kernel) (by decide +kernel)
set_option maxRecDepth 20000 in
theorem gX5_sendNow_X5_pulseOf : GoodIn wsX5_sendNow (va_wsS RX5 65 yX5_pulseOf wsX5_pulseOf) := goodIn_app (goodIn_of _ (by decide +kernel)) ggX5_sendNow_X5_pulseOf
set_option maxRecDepth 20000 in
theorem ggX5_sendNow_X5_addPulse : GoodIn wsX5_sendNow wsX5_addPulse := goodIn_r _ [8, 9, 10, 11, 12, 13, 14, 15, 16, 17, 18, 19, 20, 21, 22] (by decide +kernel) (by decide +kernel)
set_option maxRecDepth 20000 in
theorem gX5_sendNow_X5_addPulse : GoodIn wsX5_sendNow (wsV RX5 94 RX5 yX5_addPulse wsX5_addPulse) := goodIn_app (goodIn_of _ (by decide +kernel)) ggX5_sendNow_X5_addPulse
theorem dX5_sendNow_0 : decode cX5_sendNow 0 = .ok (.iconst 0, 1) := by decide +kernel
theorem dX5_sendNow_1 : decode cX5_sendNow 1 = .ok (.istore_n 2, 1) := by decide +kernel
theorem dX5_sendNow_2 : decode cX5_sendNow 2 = .ok (.iload_n 2, 1) := by decide +kernel
theorem dX5_sendNow_3 : decode cX5_sendNow 3 = .ok (.bipush 12, 2) := by decide +kernel
theorem dX5_sendNow_5 : decode cX5_sendNow 5 = .ok (.if_icmp .ge 18, 3) := by decide +kernel
theorem dX5_sendNow_8 : decode cX5_sendNow 8 = .ok (.aload_n 0, 1) := by decide +kernel
theorem dX5_sendNow_9 : decode cX5_sendNow 9 = .ok (.iload_n 1, 1) := by decide +kernel
theorem dX5_sendNow_10 : decode cX5_sendNow 10 = .ok (.iload_n 2, 1) := by decide +kernel
theorem dX5_sendNow_11 : decode cX5_sendNow 11 = .ok (.invokestatic 65, 3) := by decide +kernel
theorem dX5_sendNow_14 : decode cX5_sendNow 14 = .ok (.invokevirtual 94, 3) := by decide +kernel
theorem dX5_sendNow_17 : decode cX5_sendNow 17 = .ok (.iinc 2 1, 3) := by decide +kernel
theorem dX5_sendNow_20 : decode cX5_sendNow 20 = .ok (.goto (-18), 3) := by decide +kernel
theorem dX5_sendNow_23 : decode cX5_sendNow 23 = .ok (.return_, 1) := by decide +kernel
theorem dX5_emptyFrame_0 : decode cX5_emptyFrame 0 = .ok (.iconst 0, 1) := by decide +kernel
theorem dX5_emptyFrame_1 : decode cX5_emptyFrame 1 = .ok (.istore_n 1, 1) := by decide +kernel
theorem dX5_emptyFrame_2 : decode cX5_emptyFrame 2 = .ok (.iload_n 1, 1) := by decide +kernel
theorem dX5_emptyFrame_3 : decode cX5_emptyFrame 3 = .ok (.bipush 120, 2) := by decide +kernel
theorem dX5_emptyFrame_5 : decode cX5_emptyFrame 5 = .ok (.if_icmp .ge 19, 3) := by decide +kernel
theorem dX5_emptyFrame_8 : decode cX5_emptyFrame 8 = .ok (.aload_n 0, 1) := by decide +kernel
theorem dX5_emptyFrame_9 : decode cX5_emptyFrame 9 = .ok (.getfield 7, 3) := by decide +kernel
theorem dX5_emptyFrame_12 : decode cX5_emptyFrame 12 = .ok (.bipush 50, 2) := by decide +kernel
theorem dX5_emptyFrame_14 : decode cX5_emptyFrame 14 = .ok (.iload_n 1, 1) := by decide +kernel
theorem dX5_emptyFrame_15 : decode cX5_emptyFrame 15 = .ok (.iadd, 1) := by decide +kernel
theorem dX5_emptyFrame_16 : decode cX5_emptyFrame 16 = .ok (.iconst 0, 1) := by decide +kernel
theorem dX5_emptyFrame_17 : decode cX5_emptyFrame 17 = .ok (.iastore, 1) := by decide +kernel
theorem dX5_emptyFrame_18 : decode cX5_emptyFrame 18 = .ok (.iinc 1 1, 3) := by decide +kernel
theorem dX5_emptyFrame_21 : decode cX5_emptyFrame 21 = .ok (.goto (-19), 3) := by decide +kernel
theorem dX5_emptyFrame_24 : decode cX5_emptyFrame 24 = .ok (.aload_n 0, 1) := by decide +kernel
theorem dX5_emptyFrame_25 : decode cX5_emptyFrame 25 = .ok (.getfield 7, 3) := by decide +kernel
theorem dX5_emptyFrame_28 : decode cX5_emptyFrame 28 = .ok (.bipush 49, 2) := by decide +kernel
theorem dX5_emptyFrame_30 : decode cX5_emptyFrame 30 = .ok (.iconst 0, 1) := by decide +kernel
theorem dX5_emptyFrame_31 : decode cX5_emptyFrame 31 = .ok (.iastore, 1) := by decide +kernel
theorem dX5_emptyFrame_32 : decode cX5_emptyFrame 32 = .ok (.return_, 1) := by decide +kernel
set_option maxRecDepth 20000 in
theorem ggX5_gapNow_X5_takers : GoodIn wsX5_gapNow wsX5_takers := goodIn_r _ [7, 8, 9, 10, 6, 11, 12, 13, 14, 15, 2, 16, 17, 18, 19, 20, 21, 22, 23, 1, 24, 25, 26, 27, 28, 29, 30, 31, 51, 52, 53, 54, 55, 56, 57, 58, 59, 60, 61, 62, 63] (by decide +kernel) (by decide +kernel)
set_option maxRecDepth 20000 in
theorem gX5_gapNow_X5_takers : GoodIn wsX5_gapNow (wsV RX5 98 RX5 yX5_takers wsX5_takers) := goodIn_app (goodIn_of _ (by decide +kernel)) ggX5_gapNow_X5_takers
set_option maxRecDepth 20000 in
theorem ggX5_gapNow_X5_wordBehind : GoodIn wsX5_gapNow wsX5_wordBehind := goodIn_r _ [35, 2, 8, 9, 10, 6, 11, 12, 13, 14, 15, 16, 17, 18, 19, 20, 21, 22, 23, 1, 24, 25, 26, 27, 28, 29, 30, 31, 36, 37, 38, 39, 40, 41, 42, 43, 44, 45, 46, 51, 52, 53, 54, 55, 56, 57, 58, 59, 60, 61, 62, 63] (by decide +kernel) (by decide +kernel)
set_option maxRecDepth 20000 in
theorem gX5_gapNow_X5_wordBehind : GoodIn wsX5_gapNow (wsV RX5 101 RX5 yX5_wordBehind wsX5_wordBehind) := goodIn_app (goodIn_of _ (by decide +kernel)) ggX5_gapNow_X5_wordBehind
set_option maxRecDepth 20000 in
theorem ggX5_gapNow_X5_comes : GoodIn wsX5_gapNow wsX5_comes := goodIn_r _ [19, 20, 21, 22, 6, 23, 1, 2, 24, 25, 26, 27, 12, 13, 14, 15, 28, 29, 30, 31, 51, 52, 53, 54, 55, 56, 57, 58, 59, 60, 61, 62, 63] (by decide +kernel) (by decide +kernel)
set_option maxRecDepth 20000 in
theorem gX5_gapNow_X5_comes : GoodIn wsX5_gapNow (wsV RX5 85 RX5 yX5_comes wsX5_comes) := goodIn_app (goodIn_of _ (by decide +kernel)) ggX5_gapNow_X5_comes
set_option maxRecDepth 20000 in
theorem ggX5_gapNow_X5_emptyFrame : GoodIn wsX5_gapNow wsX5_emptyFrame := goodIn_r _ [50, 2, 51, 52, 53, 54, 55, 56, 57, 58, 59, 60, 61, 62, 63] (by decide +kernel) (by decide +kernel)
set_option maxRecDepth 20000 in
theorem gX5_gapNow_X5_emptyFrame : GoodIn wsX5_gapNow (wsV RX5 104 RX5 yX5_emptyFrame wsX5_emptyFrame) := goodIn_app (goodIn_of _ (by decide +kernel)) ggX5_gapNow_X5_emptyFrame
theorem dX5_gapNow_0 : decode cX5_gapNow 0 = .ok (.aload_n 0, 1) := by decide +kernel
theorem dX5_gapNow_1 : decode cX5_gapNow 1 = .ok (.iconst (-1), 1) := by decide +kernel
theorem dX5_gapNow_2 : decode cX5_gapNow 2 = .ok (.putfield 26, 3) := by decide +kernel
theorem dX5_gapNow_5 : decode cX5_gapNow 5 = .ok (.iconst 0, 1) := by decide +kernel
theorem dX5_gapNow_6 : decode cX5_gapNow 6 = .ok (.istore_n 1, 1) := by decide +kernel
theorem dX5_gapNow_7 : decode cX5_gapNow 7 = .ok (.bipush 12, 2) := by decide +kernel
theorem dX5_gapNow_9 : decode cX5_gapNow 9 = .ok (.aload_n 0, 1) := by decide +kernel
theorem dX5_gapNow_10 : decode cX5_gapNow 10 = .ok (.invokevirtual 98, 3) := by decide +kernel
theorem dX5_gapNow_13 : decode cX5_gapNow 13 = .ok (.imul, 1) := by decide +kernel
theorem dX5_gapNow_14 : decode cX5_gapNow 14 = .ok (.istore_n 2, 1) := by decide +kernel
theorem dX5_gapNow_15 : decode cX5_gapNow 15 = .ok (.iconst 0, 1) := by decide +kernel
theorem dX5_gapNow_16 : decode cX5_gapNow 16 = .ok (.istore_n 3, 1) := by decide +kernel
theorem dX5_gapNow_17 : decode cX5_gapNow 17 = .ok (.iload_n 3, 1) := by decide +kernel
theorem dX5_gapNow_18 : decode cX5_gapNow 18 = .ok (.bipush 8, 2) := by decide +kernel
theorem dX5_gapNow_20 : decode cX5_gapNow 20 = .ok (.if_icmp .ge 89, 3) := by decide +kernel
theorem dX5_gapNow_23 : decode cX5_gapNow 23 = .ok (.aload_n 0, 1) := by decide +kernel
theorem dX5_gapNow_24 : decode cX5_gapNow 24 = .ok (.iload_n 3, 1) := by decide +kernel
theorem dX5_gapNow_25 : decode cX5_gapNow 25 = .ok (.invokevirtual 101, 3) := by decide +kernel
theorem dX5_gapNow_28 : decode cX5_gapNow 28 = .ok (.istore 4, 2) := by decide +kernel
theorem dX5_gapNow_30 : decode cX5_gapNow 30 = .ok (.iload_n 1, 1) := by decide +kernel
theorem dX5_gapNow_31 : decode cX5_gapNow 31 = .ok (.iload 4, 2) := by decide +kernel
theorem dX5_gapNow_33 : decode cX5_gapNow 33 = .ok (.aload_n 0, 1) := by decide +kernel
theorem dX5_gapNow_34 : decode cX5_gapNow 34 = .ok (.getfield 7, 3) := by decide +kernel
theorem dX5_gapNow_37 : decode cX5_gapNow 37 = .ok (.bipush 16, 2) := by decide +kernel
theorem dX5_gapNow_39 : decode cX5_gapNow 39 = .ok (.iload_n 3, 1) := by decide +kernel
theorem dX5_gapNow_40 : decode cX5_gapNow 40 = .ok (.iadd, 1) := by decide +kernel
theorem dX5_gapNow_41 : decode cX5_gapNow 41 = .ok (.iaload, 1) := by decide +kernel
theorem dX5_gapNow_42 : decode cX5_gapNow 42 = .ok (.if_icmp .ne 7, 3) := by decide +kernel
theorem dX5_gapNow_45 : decode cX5_gapNow 45 = .ok (.iconst 0, 1) := by decide +kernel
theorem dX5_gapNow_46 : decode cX5_gapNow 46 = .ok (.goto 4, 3) := by decide +kernel
theorem dX5_gapNow_49 : decode cX5_gapNow 49 = .ok (.iconst 1, 1) := by decide +kernel
theorem dX5_gapNow_50 : decode cX5_gapNow 50 = .ok (.iadd, 1) := by decide +kernel
theorem dX5_gapNow_51 : decode cX5_gapNow 51 = .ok (.istore_n 1, 1) := by decide +kernel
theorem dX5_gapNow_52 : decode cX5_gapNow 52 = .ok (.aload_n 0, 1) := by decide +kernel
theorem dX5_gapNow_53 : decode cX5_gapNow 53 = .ok (.getfield 7, 3) := by decide +kernel
theorem dX5_gapNow_56 : decode cX5_gapNow 56 = .ok (.bipush 32, 2) := by decide +kernel
theorem dX5_gapNow_58 : decode cX5_gapNow 58 = .ok (.iload_n 3, 1) := by decide +kernel
theorem dX5_gapNow_59 : decode cX5_gapNow 59 = .ok (.iadd, 1) := by decide +kernel
theorem dX5_gapNow_60 : decode cX5_gapNow 60 = .ok (.aload_n 0, 1) := by decide +kernel
theorem dX5_gapNow_61 : decode cX5_gapNow 61 = .ok (.iload_n 3, 1) := by decide +kernel
theorem dX5_gapNow_62 : decode cX5_gapNow 62 = .ok (.invokevirtual 85, 3) := by decide +kernel
theorem dX5_gapNow_65 : decode cX5_gapNow 65 = .ok (.iastore, 1) := by decide +kernel
theorem dX5_gapNow_66 : decode cX5_gapNow 66 = .ok (.aload_n 0, 1) := by decide +kernel
theorem dX5_gapNow_67 : decode cX5_gapNow 67 = .ok (.getfield 7, 3) := by decide +kernel
theorem dX5_gapNow_70 : decode cX5_gapNow 70 = .ok (.bipush 16, 2) := by decide +kernel
theorem dX5_gapNow_72 : decode cX5_gapNow 72 = .ok (.iload_n 3, 1) := by decide +kernel
theorem dX5_gapNow_73 : decode cX5_gapNow 73 = .ok (.iadd, 1) := by decide +kernel
theorem dX5_gapNow_74 : decode cX5_gapNow 74 = .ok (.iload 4, 2) := by decide +kernel
theorem dX5_gapNow_76 : decode cX5_gapNow 76 = .ok (.iastore, 1) := by decide +kernel
theorem dX5_gapNow_77 : decode cX5_gapNow 77 = .ok (.aload_n 0, 1) := by decide +kernel
theorem dX5_gapNow_78 : decode cX5_gapNow 78 = .ok (.getfield 7, 3) := by decide +kernel
theorem dX5_gapNow_81 : decode cX5_gapNow 81 = .ok (.bipush 24, 2) := by decide +kernel
theorem dX5_gapNow_83 : decode cX5_gapNow 83 = .ok (.iload_n 3, 1) := by decide +kernel
theorem dX5_gapNow_84 : decode cX5_gapNow 84 = .ok (.iadd, 1) := by decide +kernel
theorem dX5_gapNow_85 : decode cX5_gapNow 85 = .ok (.aload_n 0, 1) := by decide +kernel
theorem dX5_gapNow_86 : decode cX5_gapNow 86 = .ok (.getfield 7, 3) := by decide +kernel
theorem dX5_gapNow_89 : decode cX5_gapNow 89 = .ok (.iconst 0, 1) := by decide +kernel
theorem dX5_gapNow_90 : decode cX5_gapNow 90 = .ok (.iload_n 3, 1) := by decide +kernel
theorem dX5_gapNow_91 : decode cX5_gapNow 91 = .ok (.iadd, 1) := by decide +kernel
theorem dX5_gapNow_92 : decode cX5_gapNow 92 = .ok (.iaload, 1) := by decide +kernel
theorem dX5_gapNow_93 : decode cX5_gapNow 93 = .ok (.ifCond .ne 8, 3) := by decide +kernel
theorem dX5_gapNow_96 : decode cX5_gapNow 96 = .ok (.iload 4, 2) := by decide +kernel
theorem dX5_gapNow_98 : decode cX5_gapNow 98 = .ok (.goto 4, 3) := by decide +kernel
theorem dX5_gapNow_101 : decode cX5_gapNow 101 = .ok (.iconst 0, 1) := by decide +kernel
theorem dX5_gapNow_102 : decode cX5_gapNow 102 = .ok (.iastore, 1) := by decide +kernel
theorem dX5_gapNow_103 : decode cX5_gapNow 103 = .ok (.iinc 3 1, 3) := by decide +kernel
theorem dX5_gapNow_106 : decode cX5_gapNow 106 = .ok (.goto (-89), 3) := by decide +kernel
theorem dX5_gapNow_109 : decode cX5_gapNow 109 = .ok (.aload_n 0, 1) := by decide +kernel
theorem dX5_gapNow_110 : decode cX5_gapNow 110 = .ok (.getfield 7, 3) := by decide +kernel
theorem dX5_gapNow_113 : decode cX5_gapNow 113 = .ok (.bipush 43, 2) := by decide +kernel
theorem dX5_gapNow_115 : decode cX5_gapNow 115 = .ok (.dup2, 1) := by decide +kernel
theorem dX5_gapNow_116 : decode cX5_gapNow 116 = .ok (.iaload, 1) := by decide +kernel
theorem dX5_gapNow_117 : decode cX5_gapNow 117 = .ok (.iconst 1, 1) := by decide +kernel
theorem dX5_gapNow_118 : decode cX5_gapNow 118 = .ok (.iadd, 1) := by decide +kernel
theorem dX5_gapNow_119 : decode cX5_gapNow 119 = .ok (.iastore, 1) := by decide +kernel
theorem dX5_gapNow_120 : decode cX5_gapNow 120 = .ok (.aload_n 0, 1) := by decide +kernel
theorem dX5_gapNow_121 : decode cX5_gapNow 121 = .ok (.getfield 7, 3) := by decide +kernel
theorem dX5_gapNow_124 : decode cX5_gapNow 124 = .ok (.bipush 45, 2) := by decide +kernel
theorem dX5_gapNow_126 : decode cX5_gapNow 126 = .ok (.dup2, 1) := by decide +kernel
theorem dX5_gapNow_127 : decode cX5_gapNow 127 = .ok (.iaload, 1) := by decide +kernel
theorem dX5_gapNow_128 : decode cX5_gapNow 128 = .ok (.iload_n 2, 1) := by decide +kernel
theorem dX5_gapNow_129 : decode cX5_gapNow 129 = .ok (.iadd, 1) := by decide +kernel
theorem dX5_gapNow_130 : decode cX5_gapNow 130 = .ok (.iastore, 1) := by decide +kernel
theorem dX5_gapNow_131 : decode cX5_gapNow 131 = .ok (.aload_n 0, 1) := by decide +kernel
theorem dX5_gapNow_132 : decode cX5_gapNow 132 = .ok (.getfield 7, 3) := by decide +kernel
theorem dX5_gapNow_135 : decode cX5_gapNow 135 = .ok (.bipush 46, 2) := by decide +kernel
theorem dX5_gapNow_137 : decode cX5_gapNow 137 = .ok (.dup2, 1) := by decide +kernel
theorem dX5_gapNow_138 : decode cX5_gapNow 138 = .ok (.iaload, 1) := by decide +kernel
theorem dX5_gapNow_139 : decode cX5_gapNow 139 = .ok (.aload_n 0, 1) := by decide +kernel
theorem dX5_gapNow_140 : decode cX5_gapNow 140 = .ok (.getfield 7, 3) := by decide +kernel
theorem dX5_gapNow_143 : decode cX5_gapNow 143 = .ok (.bipush 49, 2) := by decide +kernel
theorem dX5_gapNow_145 : decode cX5_gapNow 145 = .ok (.iaload, 1) := by decide +kernel
theorem dX5_gapNow_146 : decode cX5_gapNow 146 = .ok (.iload_n 2, 1) := by decide +kernel
theorem dX5_gapNow_147 : decode cX5_gapNow 147 = .ok (.isub, 1) := by decide +kernel
theorem dX5_gapNow_148 : decode cX5_gapNow 148 = .ok (.iadd, 1) := by decide +kernel
theorem dX5_gapNow_149 : decode cX5_gapNow 149 = .ok (.iastore, 1) := by decide +kernel
theorem dX5_gapNow_150 : decode cX5_gapNow 150 = .ok (.aload_n 0, 1) := by decide +kernel
theorem dX5_gapNow_151 : decode cX5_gapNow 151 = .ok (.invokevirtual 104, 3) := by decide +kernel
theorem dX5_gapNow_154 : decode cX5_gapNow 154 = .ok (.iload_n 1, 1) := by decide +kernel
theorem dX5_gapNow_155 : decode cX5_gapNow 155 = .ok (.ireturn, 1) := by decide +kernel
set_option maxRecDepth 20000 in
theorem ggX5_pulse_X5_in : GoodIn wsX5_pulse wsX5_in := goodIn_r _ [5] (by decide +kernel) (by decide +kernel)
set_option maxRecDepth 20000 in
theorem gX5_pulse_X5_in : GoodIn wsX5_pulse (va_wsS RX5 36 yX5_in wsX5_in) := goodIn_app (goodIn_of _ (by decide +kernel)) ggX5_pulse_X5_in
set_option maxRecDepth 20000 in
theorem ggX5_pulse_X5_refused : GoodIn wsX5_pulse wsX5_refused := goodIn_r _ [9, 10, 24, 25, 26, 27, 28, 29, 30, 31, 32, 33, 34, 35, 36] (by decide +kernel) (by decide +kernel)
set_option maxRecDepth 20000 in
theorem gX5_pulse_X5_refused : GoodIn wsX5_pulse (wsV RX5 54 RX5 yX5_refused wsX5_refused) := goodIn_app (goodIn_of _ (by decide +kernel)) ggX5_pulse_X5_refused
set_option maxRecDepth 20000 in
theorem ggX5_pulse_X5_saveState : GoodIn wsX5_pulse wsX5_saveState := goodIn_r _ [14, 15, 16, 1, 17, 18, 4, 19, 24, 25, 26, 27, 28, 29, 30, 31, 32, 33, 34, 35, 36] (by decide +kernel) (by decide +kernel)
set_option maxRecDepth 20000 in
theorem gX5_pulse_X5_saveState : GoodIn wsX5_pulse (wsV RX5 47 RX5 yX5_saveState wsX5_saveState) := goodIn_app (goodIn_of _ (by decide +kernel)) ggX5_pulse_X5_saveState
set_option maxRecDepth 20000 in
theorem ggX5_pulse_X5_addPulse : GoodIn wsX5_pulse wsX5_addPulse := goodIn_r _ [23, 1, 24, 25, 26, 27, 28, 29, 30, 31, 32, 33, 34, 35, 36] (by decide +kernel) (by decide +kernel)
set_option maxRecDepth 20000 in
theorem gX5_pulse_X5_addPulse : GoodIn wsX5_pulse (wsV RX5 94 RX5 yX5_addPulse wsX5_addPulse) := goodIn_app (goodIn_of _ (by decide +kernel)) ggX5_pulse_X5_addPulse
theorem dX5_pulse_0 : decode cX5_pulse 0 = .ok (.aload_n 0, 1) := by decide +kernel
theorem dX5_pulse_1 : decode cX5_pulse 1 = .ok (.iload_n 1, 1) := by decide +kernel
theorem dX5_pulse_2 : decode cX5_pulse 2 = .ok (.iconst 1, 1) := by decide +kernel
theorem dX5_pulse_3 : decode cX5_pulse 3 = .ok (.bipush 20, 2) := by decide +kernel
theorem dX5_pulse_5 : decode cX5_pulse 5 = .ok (.invokestatic 36, 3) := by decide +kernel
theorem dX5_pulse_8 : decode cX5_pulse 8 = .ok (.ifCond .eq 7, 3) := by decide +kernel
theorem dX5_pulse_11 : decode cX5_pulse 11 = .ok (.iconst 0, 1) := by decide +kernel
theorem dX5_pulse_12 : decode cX5_pulse 12 = .ok (.goto 4, 3) := by decide +kernel
theorem dX5_pulse_15 : decode cX5_pulse 15 = .ok (.iconst 1, 1) := by decide +kernel
theorem dX5_pulse_16 : decode cX5_pulse 16 = .ok (.invokevirtual 54, 3) := by decide +kernel
theorem dX5_pulse_19 : decode cX5_pulse 19 = .ok (.ifCond .eq 5, 3) := by decide +kernel
theorem dX5_pulse_22 : decode cX5_pulse 22 = .ok (.iconst 0, 1) := by decide +kernel
theorem dX5_pulse_23 : decode cX5_pulse 23 = .ok (.ireturn, 1) := by decide +kernel
theorem dX5_pulse_24 : decode cX5_pulse 24 = .ok (.aload_n 0, 1) := by decide +kernel
theorem dX5_pulse_25 : decode cX5_pulse 25 = .ok (.invokevirtual 47, 3) := by decide +kernel
theorem dX5_pulse_28 : decode cX5_pulse 28 = .ok (.aload_n 0, 1) := by decide +kernel
theorem dX5_pulse_29 : decode cX5_pulse 29 = .ok (.getfield 7, 3) := by decide +kernel
theorem dX5_pulse_32 : decode cX5_pulse 32 = .ok (.bipush 49, 2) := by decide +kernel
theorem dX5_pulse_34 : decode cX5_pulse 34 = .ok (.iaload, 1) := by decide +kernel
theorem dX5_pulse_35 : decode cX5_pulse 35 = .ok (.bipush 120, 2) := by decide +kernel
theorem dX5_pulse_37 : decode cX5_pulse 37 = .ok (.if_icmp .ne 16, 3) := by decide +kernel
theorem dX5_pulse_40 : decode cX5_pulse 40 = .ok (.aload_n 0, 1) := by decide +kernel
theorem dX5_pulse_41 : decode cX5_pulse 41 = .ok (.getfield 7, 3) := by decide +kernel
theorem dX5_pulse_44 : decode cX5_pulse 44 = .ok (.bipush 48, 2) := by decide +kernel
theorem dX5_pulse_46 : decode cX5_pulse 46 = .ok (.dup2, 1) := by decide +kernel
theorem dX5_pulse_47 : decode cX5_pulse 47 = .ok (.iaload, 1) := by decide +kernel
theorem dX5_pulse_48 : decode cX5_pulse 48 = .ok (.iconst 1, 1) := by decide +kernel
theorem dX5_pulse_49 : decode cX5_pulse 49 = .ok (.iadd, 1) := by decide +kernel
theorem dX5_pulse_50 : decode cX5_pulse 50 = .ok (.iastore, 1) := by decide +kernel
theorem dX5_pulse_51 : decode cX5_pulse 51 = .ok (.iconst (-1), 1) := by decide +kernel
theorem dX5_pulse_52 : decode cX5_pulse 52 = .ok (.ireturn, 1) := by decide +kernel
theorem dX5_pulse_53 : decode cX5_pulse 53 = .ok (.aload_n 0, 1) := by decide +kernel
theorem dX5_pulse_54 : decode cX5_pulse 54 = .ok (.iload_n 1, 1) := by decide +kernel
theorem dX5_pulse_55 : decode cX5_pulse 55 = .ok (.invokevirtual 94, 3) := by decide +kernel
theorem dX5_pulse_58 : decode cX5_pulse 58 = .ok (.aload_n 0, 1) := by decide +kernel
theorem dX5_pulse_59 : decode cX5_pulse 59 = .ok (.getfield 7, 3) := by decide +kernel
theorem dX5_pulse_62 : decode cX5_pulse 62 = .ok (.bipush 49, 2) := by decide +kernel
theorem dX5_pulse_64 : decode cX5_pulse 64 = .ok (.iaload, 1) := by decide +kernel
theorem dX5_pulse_65 : decode cX5_pulse 65 = .ok (.ireturn, 1) := by decide +kernel
set_option maxRecDepth 20000 in
theorem ggX5_send_X5_in : GoodIn wsX5_send wsX5_in := goodIn_r _ [5] (by decide +kernel) (by decide +kernel)
set_option maxRecDepth 20000 in
theorem gX5_send_X5_in : GoodIn wsX5_send (va_wsS RX5 36 yX5_in wsX5_in) := goodIn_app (goodIn_of _ (by decide +kernel)) ggX5_send_X5_in
set_option maxRecDepth 20000 in
theorem ggX5_send_X5_refused : GoodIn wsX5_send wsX5_refused := goodIn_r _ [9, 10, 31, 32, 33, 34, 35, 36, 37, 38, 39, 40, 41, 42, 43] (by decide +kernel) (by decide +kernel)
set_option maxRecDepth 20000 in
theorem gX5_send_X5_refused : GoodIn wsX5_send (wsV RX5 54 RX5 yX5_refused wsX5_refused) := goodIn_app (goodIn_of _ (by decide +kernel)) ggX5_send_X5_refused
set_option maxRecDepth 20000 in
theorem ggX5_send_X5_saveState : GoodIn wsX5_send wsX5_saveState := goodIn_r _ [14, 15, 16, 1, 17, 18, 4, 19, 31, 32, 33, 34, 35, 36, 37, 38, 39, 40, 41, 42, 43] (by decide +kernel) (by decide +kernel)
set_option maxRecDepth 20000 in
theorem gX5_send_X5_saveState : GoodIn wsX5_send (wsV RX5 47 RX5 yX5_saveState wsX5_saveState) := goodIn_app (goodIn_of _ (by decide +kernel)) ggX5_send_X5_saveState
set_option maxRecDepth 20000 in
theorem ggX5_send_X5_sendNow : GoodIn wsX5_send wsX5_sendNow := goodIn_r _ [23, 24, 25, 4, 26, 27, 28, 29, 30, 1, 31, 32, 33, 34, 35, 36, 37, 38, 39, 40, 41, 42, 43] (by decide +kernel) (by decide +kernel)
set_option maxRecDepth 20000 in
theorem gX5_send_X5_sendNow : GoodIn wsX5_send (wsV RX5 107 RX5 yX5_sendNow wsX5_sendNow) := goodIn_app (goodIn_of _ (by decide +kernel)) ggX5_send_X5_sendNow
theorem dX5_send_0 : decode cX5_send 0 = .ok (.aload_n 0, 1) := by decide +kernel
theorem dX5_send_1 : decode cX5_send 1 = .ok (.iload_n 1, 1) := by decide +kernel
theorem dX5_send_2 : decode cX5_send 2 = .ok (.iconst 0, 1) := by decide +kernel
theorem dX5_send_3 : decode cX5_send 3 = .ok (.sipush 4095, 3) := by decide +kernel
theorem dX5_send_6 : decode cX5_send 6 = .ok (.invokestatic 36, 3) := by decide +kernel
theorem dX5_send_9 : decode cX5_send 9 = .ok (.ifCond .eq 7, 3) := by decide +kernel
theorem dX5_send_12 : decode cX5_send 12 = .ok (.iconst 0, 1) := by decide +kernel
theorem dX5_send_13 : decode cX5_send 13 = .ok (.goto 4, 3) := by decide +kernel
theorem dX5_send_16 : decode cX5_send 16 = .ok (.iconst 1, 1) := by decide +kernel
theorem dX5_send_17 : decode cX5_send 17 = .ok (.invokevirtual 54, 3) := by decide +kernel
theorem dX5_send_20 : decode cX5_send 20 = .ok (.ifCond .eq 5, 3) := by decide +kernel
theorem dX5_send_23 : decode cX5_send 23 = .ok (.iconst 0, 1) := by decide +kernel
theorem dX5_send_24 : decode cX5_send 24 = .ok (.ireturn, 1) := by decide +kernel
theorem dX5_send_25 : decode cX5_send 25 = .ok (.aload_n 0, 1) := by decide +kernel
theorem dX5_send_26 : decode cX5_send 26 = .ok (.invokevirtual 47, 3) := by decide +kernel
theorem dX5_send_29 : decode cX5_send 29 = .ok (.aload_n 0, 1) := by decide +kernel
theorem dX5_send_30 : decode cX5_send 30 = .ok (.getfield 7, 3) := by decide +kernel
theorem dX5_send_33 : decode cX5_send 33 = .ok (.bipush 49, 2) := by decide +kernel
theorem dX5_send_35 : decode cX5_send 35 = .ok (.iaload, 1) := by decide +kernel
theorem dX5_send_36 : decode cX5_send 36 = .ok (.bipush 12, 2) := by decide +kernel
theorem dX5_send_38 : decode cX5_send 38 = .ok (.iadd, 1) := by decide +kernel
theorem dX5_send_39 : decode cX5_send 39 = .ok (.bipush 120, 2) := by decide +kernel
theorem dX5_send_41 : decode cX5_send 41 = .ok (.if_icmp .le 16, 3) := by decide +kernel
theorem dX5_send_44 : decode cX5_send 44 = .ok (.aload_n 0, 1) := by decide +kernel
theorem dX5_send_45 : decode cX5_send 45 = .ok (.getfield 7, 3) := by decide +kernel
theorem dX5_send_48 : decode cX5_send 48 = .ok (.bipush 48, 2) := by decide +kernel
theorem dX5_send_50 : decode cX5_send 50 = .ok (.dup2, 1) := by decide +kernel
theorem dX5_send_51 : decode cX5_send 51 = .ok (.iaload, 1) := by decide +kernel
theorem dX5_send_52 : decode cX5_send 52 = .ok (.iconst 1, 1) := by decide +kernel
theorem dX5_send_53 : decode cX5_send 53 = .ok (.iadd, 1) := by decide +kernel
theorem dX5_send_54 : decode cX5_send 54 = .ok (.iastore, 1) := by decide +kernel
theorem dX5_send_55 : decode cX5_send 55 = .ok (.iconst (-1), 1) := by decide +kernel
theorem dX5_send_56 : decode cX5_send 56 = .ok (.ireturn, 1) := by decide +kernel
theorem dX5_send_57 : decode cX5_send 57 = .ok (.aload_n 0, 1) := by decide +kernel
theorem dX5_send_58 : decode cX5_send 58 = .ok (.iload_n 1, 1) := by decide +kernel
theorem dX5_send_59 : decode cX5_send 59 = .ok (.invokevirtual 107, 3) := by decide +kernel
theorem dX5_send_62 : decode cX5_send 62 = .ok (.aload_n 0, 1) := by decide +kernel
theorem dX5_send_63 : decode cX5_send 63 = .ok (.getfield 7, 3) := by decide +kernel
theorem dX5_send_66 : decode cX5_send 66 = .ok (.bipush 49, 2) := by decide +kernel
theorem dX5_send_68 : decode cX5_send 68 = .ok (.iaload, 1) := by decide +kernel
theorem dX5_send_69 : decode cX5_send 69 = .ok (.ireturn, 1) := by decide +kernel
set_option maxRecDepth 20000 in
theorem ggX5_gap_X5_saveState : GoodIn wsX5_gap wsX5_saveState := goodIn_r _ [6, 7, 8, 9, 10, 11, 5, 12, 65, 66, 67, 68, 69, 70, 71, 72, 73, 74, 75, 76, 77] (by decide +kernel) (by decide +kernel)
set_option maxRecDepth 20000 in
theorem gX5_gap_X5_saveState : GoodIn wsX5_gap (wsV RX5 47 RX5 yX5_saveState wsX5_saveState) := goodIn_app (goodIn_of _ (by decide +kernel)) ggX5_gap_X5_saveState
set_option maxRecDepth 20000 in
theorem ggX5_gap_X5_gapNow : GoodIn wsX5_gap wsX5_gapNow := goodIn_r _ [16, 17, 9, 18, 19, 20, 5, 21, 22, 23, 24, 25, 26, 27, 28, 29, 30, 31, 32, 33, 34, 35, 36, 37, 38, 39, 40, 41, 42, 43, 44, 45, 46, 47, 48, 49, 50, 51, 52, 53, 54, 55, 56, 57, 58, 59, 60, 61, 62, 63, 64, 65, 66, 67, 68, 69, 70, 71, 72, 73, 74, 75, 76, 77] (by decide +kernel) (by decide +kernel)
set_option maxRecDepth 20000 in
theorem gX5_gap_X5_gapNow : GoodIn wsX5_gap (wsV RX5 110 RX5 yX5_gapNow wsX5_gapNow) := goodIn_app (goodIn_of _ (by decide +kernel)) ggX5_gap_X5_gapNow
theorem dX5_gap_0 : decode cX5_gap 0 = .ok (.aload_n 0, 1) := by decide +kernel
theorem dX5_gap_1 : decode cX5_gap 1 = .ok (.iconst 0, 1) := by decide +kernel
theorem dX5_gap_2 : decode cX5_gap 2 = .ok (.putfield 33, 3) := by decide +kernel
theorem dX5_gap_5 : decode cX5_gap 5 = .ok (.aload_n 0, 1) := by decide +kernel
theorem dX5_gap_6 : decode cX5_gap 6 = .ok (.invokevirtual 47, 3) := by decide +kernel
theorem dX5_gap_9 : decode cX5_gap 9 = .ok (.aload_n 0, 1) := by decide +kernel
theorem dX5_gap_10 : decode cX5_gap 10 = .ok (.invokevirtual 110, 3) := by decide +kernel
theorem dX5_gap_13 : decode cX5_gap 13 = .ok (.ireturn, 1) := by decide +kernel
set_option maxRecDepth 20000 in
theorem ggX5_drop_X5_saveState : GoodIn wsX5_drop wsX5_saveState := goodIn_r _ [7, 8, 9, 2, 10, 11, 6, 12, 17, 18, 19, 20, 21, 22, 23, 24, 25, 26, 27, 28, 29] (by decide +kernel) (by decide +kernel)
set_option maxRecDepth 20000 in
theorem gX5_drop_X5_saveState : GoodIn wsX5_drop (wsV RX5 47 RX5 yX5_saveState wsX5_saveState) := goodIn_app (goodIn_of _ (by decide +kernel)) ggX5_drop_X5_saveState
set_option maxRecDepth 20000 in
theorem ggX5_drop_X5_emptyFrame : GoodIn wsX5_drop wsX5_emptyFrame := goodIn_r _ [16, 2, 17, 18, 19, 20, 21, 22, 23, 24, 25, 26, 27, 28, 29] (by decide +kernel) (by decide +kernel)
set_option maxRecDepth 20000 in
theorem gX5_drop_X5_emptyFrame : GoodIn wsX5_drop (wsV RX5 104 RX5 yX5_emptyFrame wsX5_emptyFrame) := goodIn_app (goodIn_of _ (by decide +kernel)) ggX5_drop_X5_emptyFrame
theorem dX5_drop_0 : decode cX5_drop 0 = .ok (.aload_n 0, 1) := by decide +kernel
theorem dX5_drop_1 : decode cX5_drop 1 = .ok (.iconst 0, 1) := by decide +kernel
theorem dX5_drop_2 : decode cX5_drop 2 = .ok (.putfield 33, 3) := by decide +kernel
theorem dX5_drop_5 : decode cX5_drop 5 = .ok (.aload_n 0, 1) := by decide +kernel
theorem dX5_drop_6 : decode cX5_drop 6 = .ok (.invokevirtual 47, 3) := by decide +kernel
theorem dX5_drop_9 : decode cX5_drop 9 = .ok (.aload_n 0, 1) := by decide +kernel
theorem dX5_drop_10 : decode cX5_drop 10 = .ok (.getfield 7, 3) := by decide +kernel
theorem dX5_drop_13 : decode cX5_drop 13 = .ok (.bipush 49, 2) := by decide +kernel
theorem dX5_drop_15 : decode cX5_drop 15 = .ok (.iaload, 1) := by decide +kernel
theorem dX5_drop_16 : decode cX5_drop 16 = .ok (.istore_n 1, 1) := by decide +kernel
theorem dX5_drop_17 : decode cX5_drop 17 = .ok (.aload_n 0, 1) := by decide +kernel
theorem dX5_drop_18 : decode cX5_drop 18 = .ok (.getfield 7, 3) := by decide +kernel
theorem dX5_drop_21 : decode cX5_drop 21 = .ok (.bipush 47, 2) := by decide +kernel
theorem dX5_drop_23 : decode cX5_drop 23 = .ok (.dup2, 1) := by decide +kernel
theorem dX5_drop_24 : decode cX5_drop 24 = .ok (.iaload, 1) := by decide +kernel
theorem dX5_drop_25 : decode cX5_drop 25 = .ok (.iload_n 1, 1) := by decide +kernel
theorem dX5_drop_26 : decode cX5_drop 26 = .ok (.iadd, 1) := by decide +kernel
theorem dX5_drop_27 : decode cX5_drop 27 = .ok (.iastore, 1) := by decide +kernel
theorem dX5_drop_28 : decode cX5_drop 28 = .ok (.aload_n 0, 1) := by decide +kernel
theorem dX5_drop_29 : decode cX5_drop 29 = .ok (.invokevirtual 104, 3) := by decide +kernel
theorem dX5_drop_32 : decode cX5_drop 32 = .ok (.iload_n 1, 1) := by decide +kernel
theorem dX5_drop_33 : decode cX5_drop 33 = .ok (.ireturn, 1) := by decide +kernel
set_option maxRecDepth 20000 in
theorem ggX5_append_X5_in : GoodIn wsX5_append wsX5_in := goodIn_r _ [6] (by decide +kernel) (by decide +kernel)
set_option maxRecDepth 20000 in
theorem gX5_append_X5_in : GoodIn wsX5_append (va_wsS RX5 36 yX5_in wsX5_in) := goodIn_app (goodIn_of _ (by decide +kernel)) ggX5_append_X5_in
set_option maxRecDepth 20000 in
theorem ggX5_append_X5_refused : GoodIn wsX5_append wsX5_refused := goodIn_r _ [10, 11, 12, 13, 14, 15, 16, 17, 18, 19, 20, 21, 22, 23, 24] (by decide +kernel) (by decide +kernel)
set_option maxRecDepth 20000 in
theorem gX5_append_X5_refused : GoodIn wsX5_append (wsV RX5 54 RX5 yX5_refused wsX5_refused) := goodIn_app (goodIn_of _ (by decide +kernel)) ggX5_append_X5_refused
theorem dX5_append_0 : decode cX5_append 0 = .ok (.aload_n 0, 1) := by decide +kernel
theorem dX5_append_1 : decode cX5_append 1 = .ok (.iload_n 1, 1) := by decide +kernel
theorem dX5_append_2 : decode cX5_append 2 = .ok (.bipush 33, 2) := by decide +kernel
theorem dX5_append_4 : decode cX5_append 4 = .ok (.bipush 126, 2) := by decide +kernel
theorem dX5_append_6 : decode cX5_append 6 = .ok (.invokestatic 36, 3) := by decide +kernel
theorem dX5_append_9 : decode cX5_append 9 = .ok (.ifCond .ne 7, 3) := by decide +kernel
theorem dX5_append_12 : decode cX5_append 12 = .ok (.iconst 1, 1) := by decide +kernel
theorem dX5_append_13 : decode cX5_append 13 = .ok (.goto 17, 3) := by decide +kernel
theorem dX5_append_16 : decode cX5_append 16 = .ok (.aload_n 0, 1) := by decide +kernel
theorem dX5_append_17 : decode cX5_append 17 = .ok (.getfield 113, 3) := by decide +kernel
theorem dX5_append_20 : decode cX5_append 20 = .ok (.bipush 60, 2) := by decide +kernel
theorem dX5_append_22 : decode cX5_append 22 = .ok (.if_icmp .ne 7, 3) := by decide +kernel
theorem dX5_append_25 : decode cX5_append 25 = .ok (.iconst 2, 1) := by decide +kernel
theorem dX5_append_26 : decode cX5_append 26 = .ok (.goto 4, 3) := by decide +kernel
theorem dX5_append_29 : decode cX5_append 29 = .ok (.iconst 0, 1) := by decide +kernel
theorem dX5_append_30 : decode cX5_append 30 = .ok (.invokevirtual 54, 3) := by decide +kernel
theorem dX5_append_33 : decode cX5_append 33 = .ok (.ifCond .eq 5, 3) := by decide +kernel
theorem dX5_append_36 : decode cX5_append 36 = .ok (.iconst 0, 1) := by decide +kernel
theorem dX5_append_37 : decode cX5_append 37 = .ok (.ireturn, 1) := by decide +kernel
theorem dX5_append_38 : decode cX5_append 38 = .ok (.aload_n 0, 1) := by decide +kernel
theorem dX5_append_39 : decode cX5_append 39 = .ok (.getfield 23, 3) := by decide +kernel
theorem dX5_append_42 : decode cX5_append 42 = .ok (.aload_n 0, 1) := by decide +kernel
theorem dX5_append_43 : decode cX5_append 43 = .ok (.getfield 113, 3) := by decide +kernel
theorem dX5_append_46 : decode cX5_append 46 = .ok (.iload_n 1, 1) := by decide +kernel
theorem dX5_append_47 : decode cX5_append 47 = .ok (.iastore, 1) := by decide +kernel
theorem dX5_append_48 : decode cX5_append 48 = .ok (.aload_n 0, 1) := by decide +kernel
theorem dX5_append_49 : decode cX5_append 49 = .ok (.dup, 1) := by decide +kernel
theorem dX5_append_50 : decode cX5_append 50 = .ok (.getfield 113, 3) := by decide +kernel
theorem dX5_append_53 : decode cX5_append 53 = .ok (.iconst 1, 1) := by decide +kernel
theorem dX5_append_54 : decode cX5_append 54 = .ok (.iadd, 1) := by decide +kernel
theorem dX5_append_55 : decode cX5_append 55 = .ok (.putfield 113, 3) := by decide +kernel
theorem dX5_append_58 : decode cX5_append 58 = .ok (.aload_n 0, 1) := by decide +kernel
theorem dX5_append_59 : decode cX5_append 59 = .ok (.getfield 113, 3) := by decide +kernel
theorem dX5_append_62 : decode cX5_append 62 = .ok (.ireturn, 1) := by decide +kernel
theorem dX5_clearBuffer_0 : decode cX5_clearBuffer 0 = .ok (.aload_n 0, 1) := by decide +kernel
theorem dX5_clearBuffer_1 : decode cX5_clearBuffer 1 = .ok (.iconst 0, 1) := by decide +kernel
theorem dX5_clearBuffer_2 : decode cX5_clearBuffer 2 = .ok (.putfield 33, 3) := by decide +kernel
theorem dX5_clearBuffer_5 : decode cX5_clearBuffer 5 = .ok (.aload_n 0, 1) := by decide +kernel
theorem dX5_clearBuffer_6 : decode cX5_clearBuffer 6 = .ok (.getfield 113, 3) := by decide +kernel
theorem dX5_clearBuffer_9 : decode cX5_clearBuffer 9 = .ok (.istore_n 1, 1) := by decide +kernel
theorem dX5_clearBuffer_10 : decode cX5_clearBuffer 10 = .ok (.aload_n 0, 1) := by decide +kernel
theorem dX5_clearBuffer_11 : decode cX5_clearBuffer 11 = .ok (.iconst 0, 1) := by decide +kernel
theorem dX5_clearBuffer_12 : decode cX5_clearBuffer 12 = .ok (.putfield 113, 3) := by decide +kernel
theorem dX5_clearBuffer_15 : decode cX5_clearBuffer 15 = .ok (.iload_n 1, 1) := by decide +kernel
theorem dX5_clearBuffer_16 : decode cX5_clearBuffer 16 = .ok (.ireturn, 1) := by decide +kernel
theorem dX5_takesSign_0 : decode cX5_takesSign 0 = .ok (.aload_n 0, 1) := by decide +kernel
theorem dX5_takesSign_1 : decode cX5_takesSign 1 = .ok (.getfield 116, 3) := by decide +kernel
theorem dX5_takesSign_4 : decode cX5_takesSign 4 = .ok (.aload_n 0, 1) := by decide +kernel
theorem dX5_takesSign_5 : decode cX5_takesSign 5 = .ok (.getfield 113, 3) := by decide +kernel
theorem dX5_takesSign_8 : decode cX5_takesSign 8 = .ok (.if_icmp .ge 20, 3) := by decide +kernel
theorem dX5_takesSign_11 : decode cX5_takesSign 11 = .ok (.aload_n 0, 1) := by decide +kernel
theorem dX5_takesSign_12 : decode cX5_takesSign 12 = .ok (.getfield 23, 3) := by decide +kernel
theorem dX5_takesSign_15 : decode cX5_takesSign 15 = .ok (.aload_n 0, 1) := by decide +kernel
theorem dX5_takesSign_16 : decode cX5_takesSign 16 = .ok (.getfield 116, 3) := by decide +kernel
theorem dX5_takesSign_19 : decode cX5_takesSign 19 = .ok (.iaload, 1) := by decide +kernel
theorem dX5_takesSign_20 : decode cX5_takesSign 20 = .ok (.iload_n 1, 1) := by decide +kernel
theorem dX5_takesSign_21 : decode cX5_takesSign 21 = .ok (.if_icmp .ne 7, 3) := by decide +kernel
theorem dX5_takesSign_24 : decode cX5_takesSign 24 = .ok (.iconst 1, 1) := by decide +kernel
theorem dX5_takesSign_25 : decode cX5_takesSign 25 = .ok (.goto 4, 3) := by decide +kernel
theorem dX5_takesSign_28 : decode cX5_takesSign 28 = .ok (.iconst 0, 1) := by decide +kernel
theorem dX5_takesSign_29 : decode cX5_takesSign 29 = .ok (.istore_n 2, 1) := by decide +kernel
theorem dX5_takesSign_30 : decode cX5_takesSign 30 = .ok (.aload_n 0, 1) := by decide +kernel
theorem dX5_takesSign_31 : decode cX5_takesSign 31 = .ok (.dup, 1) := by decide +kernel
theorem dX5_takesSign_32 : decode cX5_takesSign 32 = .ok (.getfield 116, 3) := by decide +kernel
theorem dX5_takesSign_35 : decode cX5_takesSign 35 = .ok (.iload_n 2, 1) := by decide +kernel
theorem dX5_takesSign_36 : decode cX5_takesSign 36 = .ok (.ifCond .eq 7, 3) := by decide +kernel
theorem dX5_takesSign_39 : decode cX5_takesSign 39 = .ok (.iconst 1, 1) := by decide +kernel
theorem dX5_takesSign_40 : decode cX5_takesSign 40 = .ok (.goto 4, 3) := by decide +kernel
theorem dX5_takesSign_43 : decode cX5_takesSign 43 = .ok (.iconst 0, 1) := by decide +kernel
theorem dX5_takesSign_44 : decode cX5_takesSign 44 = .ok (.iadd, 1) := by decide +kernel
theorem dX5_takesSign_45 : decode cX5_takesSign 45 = .ok (.putfield 116, 3) := by decide +kernel
theorem dX5_takesSign_48 : decode cX5_takesSign 48 = .ok (.iload_n 2, 1) := by decide +kernel
theorem dX5_takesSign_49 : decode cX5_takesSign 49 = .ok (.ireturn, 1) := by decide +kernel
set_option maxRecDepth 20000 in
theorem ggX5_digit_X5_in : GoodIn wsX5_digit wsX5_in := goodIn_r _ [4] (by decide +kernel) (by decide +kernel)
set_option maxRecDepth 20000 in
theorem gX5_digit_X5_in : GoodIn wsX5_digit (va_wsS RX5 36 yX5_in wsX5_in) := goodIn_app (goodIn_of _ (by decide +kernel)) ggX5_digit_X5_in
theorem dX5_digit_0 : decode cX5_digit 0 = .ok (.iload_n 0, 1) := by decide +kernel
theorem dX5_digit_1 : decode cX5_digit 1 = .ok (.bipush 48, 2) := by decide +kernel
theorem dX5_digit_3 : decode cX5_digit 3 = .ok (.bipush 57, 2) := by decide +kernel
theorem dX5_digit_5 : decode cX5_digit 5 = .ok (.invokestatic 36, 3) := by decide +kernel
theorem dX5_digit_8 : decode cX5_digit 8 = .ok (.ifCond .eq 10, 3) := by decide +kernel
theorem dX5_digit_11 : decode cX5_digit 11 = .ok (.iload_n 0, 1) := by decide +kernel
theorem dX5_digit_12 : decode cX5_digit 12 = .ok (.bipush 48, 2) := by decide +kernel
theorem dX5_digit_14 : decode cX5_digit 14 = .ok (.isub, 1) := by decide +kernel
theorem dX5_digit_15 : decode cX5_digit 15 = .ok (.goto 25, 3) := by decide +kernel
theorem dX5_digit_18 : decode cX5_digit 18 = .ok (.iload_n 0, 1) := by decide +kernel
theorem dX5_digit_19 : decode cX5_digit 19 = .ok (.bipush 97, 2) := by decide +kernel
theorem dX5_digit_21 : decode cX5_digit 21 = .ok (.bipush 102, 2) := by decide +kernel
theorem dX5_digit_23 : decode cX5_digit 23 = .ok (.invokestatic 36, 3) := by decide +kernel
theorem dX5_digit_26 : decode cX5_digit 26 = .ok (.ifCond .eq 13, 3) := by decide +kernel
theorem dX5_digit_29 : decode cX5_digit 29 = .ok (.iload_n 0, 1) := by decide +kernel
theorem dX5_digit_30 : decode cX5_digit 30 = .ok (.bipush 97, 2) := by decide +kernel
theorem dX5_digit_32 : decode cX5_digit 32 = .ok (.isub, 1) := by decide +kernel
theorem dX5_digit_33 : decode cX5_digit 33 = .ok (.bipush 10, 2) := by decide +kernel
theorem dX5_digit_35 : decode cX5_digit 35 = .ok (.iadd, 1) := by decide +kernel
theorem dX5_digit_36 : decode cX5_digit 36 = .ok (.goto 4, 3) := by decide +kernel
theorem dX5_digit_39 : decode cX5_digit 39 = .ok (.iconst (-1), 1) := by decide +kernel
theorem dX5_digit_40 : decode cX5_digit 40 = .ok (.ireturn, 1) := by decide +kernel
set_option maxRecDepth 20000 in
theorem ggX5_readWord_X5_digit : GoodIn wsX5_readWord wsX5_digit := goodIn_r _ [9, 10, 11, 8, 12] (by decide +kernel) (by decide +kernel)
set_option maxRecDepth 20000 in
theorem gX5_readWord_X5_digit : GoodIn wsX5_readWord (va_wsS RX5 119 yX5_digit wsX5_digit) := goodIn_app (goodIn_of _ (by decide +kernel)) ggX5_readWord_X5_digit
theorem dX5_readWord_0 : decode cX5_readWord 0 = .ok (.iconst 0, 1) := by decide +kernel
theorem dX5_readWord_1 : decode cX5_readWord 1 = .ok (.istore_n 1, 1) := by decide +kernel
theorem dX5_readWord_2 : decode cX5_readWord 2 = .ok (.iconst 0, 1) := by decide +kernel
theorem dX5_readWord_3 : decode cX5_readWord 3 = .ok (.istore_n 2, 1) := by decide +kernel
theorem dX5_readWord_4 : decode cX5_readWord 4 = .ok (.iload_n 2, 1) := by decide +kernel
theorem dX5_readWord_5 : decode cX5_readWord 5 = .ok (.iconst 3, 1) := by decide +kernel
theorem dX5_readWord_6 : decode cX5_readWord 6 = .ok (.if_icmp .ge 61, 3) := by decide +kernel
theorem dX5_readWord_9 : decode cX5_readWord 9 = .ok (.aload_n 0, 1) := by decide +kernel
theorem dX5_readWord_10 : decode cX5_readWord 10 = .ok (.getfield 116, 3) := by decide +kernel
theorem dX5_readWord_13 : decode cX5_readWord 13 = .ok (.aload_n 0, 1) := by decide +kernel
theorem dX5_readWord_14 : decode cX5_readWord 14 = .ok (.getfield 113, 3) := by decide +kernel
theorem dX5_readWord_17 : decode cX5_readWord 17 = .ok (.if_icmp .ge 18, 3) := by decide +kernel
theorem dX5_readWord_20 : decode cX5_readWord 20 = .ok (.aload_n 0, 1) := by decide +kernel
theorem dX5_readWord_21 : decode cX5_readWord 21 = .ok (.getfield 23, 3) := by decide +kernel
theorem dX5_readWord_24 : decode cX5_readWord 24 = .ok (.aload_n 0, 1) := by decide +kernel
theorem dX5_readWord_25 : decode cX5_readWord 25 = .ok (.getfield 116, 3) := by decide +kernel
theorem dX5_readWord_28 : decode cX5_readWord 28 = .ok (.iaload, 1) := by decide +kernel
theorem dX5_readWord_29 : decode cX5_readWord 29 = .ok (.invokestatic 119, 3) := by decide +kernel
theorem dX5_readWord_32 : decode cX5_readWord 32 = .ok (.goto 4, 3) := by decide +kernel
theorem dX5_readWord_35 : decode cX5_readWord 35 = .ok (.iconst (-1), 1) := by decide +kernel
theorem dX5_readWord_36 : decode cX5_readWord 36 = .ok (.istore_n 3, 1) := by decide +kernel
theorem dX5_readWord_37 : decode cX5_readWord 37 = .ok (.iload_n 3, 1) := by decide +kernel
theorem dX5_readWord_38 : decode cX5_readWord 38 = .ok (.iconst (-1), 1) := by decide +kernel
theorem dX5_readWord_39 : decode cX5_readWord 39 = .ok (.if_icmp .ne 5, 3) := by decide +kernel
theorem dX5_readWord_42 : decode cX5_readWord 42 = .ok (.iconst 0, 1) := by decide +kernel
theorem dX5_readWord_43 : decode cX5_readWord 43 = .ok (.ireturn, 1) := by decide +kernel
theorem dX5_readWord_44 : decode cX5_readWord 44 = .ok (.bipush 16, 2) := by decide +kernel
theorem dX5_readWord_46 : decode cX5_readWord 46 = .ok (.iload_n 1, 1) := by decide +kernel
theorem dX5_readWord_47 : decode cX5_readWord 47 = .ok (.imul, 1) := by decide +kernel
theorem dX5_readWord_48 : decode cX5_readWord 48 = .ok (.iload_n 3, 1) := by decide +kernel
theorem dX5_readWord_49 : decode cX5_readWord 49 = .ok (.iadd, 1) := by decide +kernel
theorem dX5_readWord_50 : decode cX5_readWord 50 = .ok (.istore_n 1, 1) := by decide +kernel
theorem dX5_readWord_51 : decode cX5_readWord 51 = .ok (.aload_n 0, 1) := by decide +kernel
theorem dX5_readWord_52 : decode cX5_readWord 52 = .ok (.dup, 1) := by decide +kernel
theorem dX5_readWord_53 : decode cX5_readWord 53 = .ok (.getfield 116, 3) := by decide +kernel
theorem dX5_readWord_56 : decode cX5_readWord 56 = .ok (.iconst 1, 1) := by decide +kernel
theorem dX5_readWord_57 : decode cX5_readWord 57 = .ok (.iadd, 1) := by decide +kernel
theorem dX5_readWord_58 : decode cX5_readWord 58 = .ok (.putfield 116, 3) := by decide +kernel
theorem dX5_readWord_61 : decode cX5_readWord 61 = .ok (.iinc 2 1, 3) := by decide +kernel
theorem dX5_readWord_64 : decode cX5_readWord 64 = .ok (.goto (-60), 3) := by decide +kernel
theorem dX5_readWord_67 : decode cX5_readWord 67 = .ok (.aload_n 0, 1) := by decide +kernel
theorem dX5_readWord_68 : decode cX5_readWord 68 = .ok (.getfield 30, 3) := by decide +kernel
theorem dX5_readWord_71 : decode cX5_readWord 71 = .ok (.aload_n 0, 1) := by decide +kernel
theorem dX5_readWord_72 : decode cX5_readWord 72 = .ok (.getfield 122, 3) := by decide +kernel
theorem dX5_readWord_75 : decode cX5_readWord 75 = .ok (.iload_n 1, 1) := by decide +kernel
theorem dX5_readWord_76 : decode cX5_readWord 76 = .ok (.iastore, 1) := by decide +kernel
theorem dX5_readWord_77 : decode cX5_readWord 77 = .ok (.aload_n 0, 1) := by decide +kernel
theorem dX5_readWord_78 : decode cX5_readWord 78 = .ok (.dup, 1) := by decide +kernel
theorem dX5_readWord_79 : decode cX5_readWord 79 = .ok (.getfield 122, 3) := by decide +kernel
theorem dX5_readWord_82 : decode cX5_readWord 82 = .ok (.iconst 1, 1) := by decide +kernel
theorem dX5_readWord_83 : decode cX5_readWord 83 = .ok (.iadd, 1) := by decide +kernel
theorem dX5_readWord_84 : decode cX5_readWord 84 = .ok (.putfield 122, 3) := by decide +kernel
theorem dX5_readWord_87 : decode cX5_readWord 87 = .ok (.iconst 1, 1) := by decide +kernel
theorem dX5_readWord_88 : decode cX5_readWord 88 = .ok (.ireturn, 1) := by decide +kernel
set_option maxRecDepth 20000 in
theorem ggX5_readText_X5_readWord : GoodIn wsX5_readText wsX5_readWord := goodIn_r _ [9, 1, 4, 10, 11, 2, 12, 13, 8, 14, 15, 16, 17, 22, 23, 24, 25, 26, 27, 28, 29, 30, 31, 32, 33, 34] (by decide +kernel) (by decide +kernel)
set_option maxRecDepth 20000 in
theorem gX5_readText_X5_readWord : GoodIn wsX5_readText (wsV RX5 125 RX5 yX5_readWord wsX5_readWord) := goodIn_app (goodIn_of _ (by decide +kernel)) ggX5_readText_X5_readWord
set_option maxRecDepth 20000 in
theorem ggX5_readText_X5_takesSign : GoodIn wsX5_readText wsX5_takesSign := goodIn_r _ [21, 1, 4, 10, 22, 23, 24, 25, 26, 27, 28, 29, 30, 31, 32, 33, 34] (by decide +kernel) (by decide +kernel)
set_option maxRecDepth 20000 in
theorem gX5_readText_X5_takesSign : GoodIn wsX5_readText (wsV RX5 129 RX5 yX5_takesSign wsX5_takesSign) := goodIn_app (goodIn_of _ (by decide +kernel)) ggX5_readText_X5_takesSign
theorem dX5_readText_0 : decode cX5_readText 0 = .ok (.aload_n 0, 1) := by decide +kernel
theorem dX5_readText_1 : decode cX5_readText 1 = .ok (.iconst 0, 1) := by decide +kernel
theorem dX5_readText_2 : decode cX5_readText 2 = .ok (.putfield 116, 3) := by decide +kernel
theorem dX5_readText_5 : decode cX5_readText 5 = .ok (.aload_n 0, 1) := by decide +kernel
theorem dX5_readText_6 : decode cX5_readText 6 = .ok (.iconst 0, 1) := by decide +kernel
theorem dX5_readText_7 : decode cX5_readText 7 = .ok (.putfield 122, 3) := by decide +kernel
theorem dX5_readText_10 : decode cX5_readText 10 = .ok (.aload_n 0, 1) := by decide +kernel
theorem dX5_readText_11 : decode cX5_readText 11 = .ok (.invokevirtual 125, 3) := by decide +kernel
theorem dX5_readText_14 : decode cX5_readText 14 = .ok (.istore_n 1, 1) := by decide +kernel
theorem dX5_readText_15 : decode cX5_readText 15 = .ok (.iload_n 1, 1) := by decide +kernel
theorem dX5_readText_16 : decode cX5_readText 16 = .ok (.ifCond .eq 29, 3) := by decide +kernel
theorem dX5_readText_19 : decode cX5_readText 19 = .ok (.aload_n 0, 1) := by decide +kernel
theorem dX5_readText_20 : decode cX5_readText 20 = .ok (.getfield 122, 3) := by decide +kernel
theorem dX5_readText_23 : decode cX5_readText 23 = .ok (.bipush 10, 2) := by decide +kernel
theorem dX5_readText_25 : decode cX5_readText 25 = .ok (.if_icmp .ge 20, 3) := by decide +kernel
theorem dX5_readText_28 : decode cX5_readText 28 = .ok (.aload_n 0, 1) := by decide +kernel
theorem dX5_readText_29 : decode cX5_readText 29 = .ok (.bipush 44, 2) := by decide +kernel
theorem dX5_readText_31 : decode cX5_readText 31 = .ok (.invokevirtual 129, 3) := by decide +kernel
theorem dX5_readText_34 : decode cX5_readText 34 = .ok (.ifCond .eq 11, 3) := by decide +kernel
theorem dX5_readText_37 : decode cX5_readText 37 = .ok (.aload_n 0, 1) := by decide +kernel
theorem dX5_readText_38 : decode cX5_readText 38 = .ok (.invokevirtual 125, 3) := by decide +kernel
theorem dX5_readText_41 : decode cX5_readText 41 = .ok (.istore_n 1, 1) := by decide +kernel
theorem dX5_readText_42 : decode cX5_readText 42 = .ok (.goto (-27), 3) := by decide +kernel
theorem dX5_readText_45 : decode cX5_readText 45 = .ok (.aload_n 0, 1) := by decide +kernel
theorem dX5_readText_46 : decode cX5_readText 46 = .ok (.iload_n 1, 1) := by decide +kernel
theorem dX5_readText_47 : decode cX5_readText 47 = .ok (.ifCond .eq 16, 3) := by decide +kernel
theorem dX5_readText_50 : decode cX5_readText 50 = .ok (.aload_n 0, 1) := by decide +kernel
theorem dX5_readText_51 : decode cX5_readText 51 = .ok (.bipush 33, 2) := by decide +kernel
theorem dX5_readText_53 : decode cX5_readText 53 = .ok (.invokevirtual 129, 3) := by decide +kernel
theorem dX5_readText_56 : decode cX5_readText 56 = .ok (.ifCond .eq 7, 3) := by decide +kernel
theorem dX5_readText_59 : decode cX5_readText 59 = .ok (.iconst 1, 1) := by decide +kernel
theorem dX5_readText_60 : decode cX5_readText 60 = .ok (.goto 4, 3) := by decide +kernel
theorem dX5_readText_63 : decode cX5_readText 63 = .ok (.iconst 0, 1) := by decide +kernel
theorem dX5_readText_64 : decode cX5_readText 64 = .ok (.putfield 132, 3) := by decide +kernel
theorem dX5_readText_67 : decode cX5_readText 67 = .ok (.iload_n 1, 1) := by decide +kernel
theorem dX5_readText_68 : decode cX5_readText 68 = .ok (.ifCond .eq 18, 3) := by decide +kernel
theorem dX5_readText_71 : decode cX5_readText 71 = .ok (.aload_n 0, 1) := by decide +kernel
theorem dX5_readText_72 : decode cX5_readText 72 = .ok (.getfield 116, 3) := by decide +kernel
theorem dX5_readText_75 : decode cX5_readText 75 = .ok (.aload_n 0, 1) := by decide +kernel
theorem dX5_readText_76 : decode cX5_readText 76 = .ok (.getfield 113, 3) := by decide +kernel
theorem dX5_readText_79 : decode cX5_readText 79 = .ok (.if_icmp .ne 7, 3) := by decide +kernel
theorem dX5_readText_82 : decode cX5_readText 82 = .ok (.iconst 1, 1) := by decide +kernel
theorem dX5_readText_83 : decode cX5_readText 83 = .ok (.goto 4, 3) := by decide +kernel
theorem dX5_readText_86 : decode cX5_readText 86 = .ok (.iconst 0, 1) := by decide +kernel
theorem dX5_readText_87 : decode cX5_readText 87 = .ok (.ireturn, 1) := by decide +kernel
set_option maxRecDepth 20000 in
theorem ggX5_firstError_X5_readText : GoodIn wsX5_firstError wsX5_readText := goodIn_r _ [8, 3, 9, 10, 2, 11, 12, 13, 7, 14, 15, 16, 17, 18, 19, 20, 21, 22, 23, 24, 25, 26, 27, 28, 29, 30, 31, 32, 33, 34, 35, 36, 37, 38, 39] (by decide +kernel) (by decide +kernel)
set_option maxRecDepth 20000 in
theorem gX5_firstError_X5_readText : GoodIn wsX5_firstError (wsV RX5 136 RX5 yX5_readText wsX5_readText) := goodIn_app (goodIn_of _ (by decide +kernel)) ggX5_firstError_X5_readText
theorem dX5_firstError_0 : decode cX5_firstError 0 = .ok (.aload_n 0, 1) := by decide +kernel
theorem dX5_firstError_1 : decode cX5_firstError 1 = .ok (.iconst 0, 1) := by decide +kernel
theorem dX5_firstError_2 : decode cX5_firstError 2 = .ok (.putfield 33, 3) := by decide +kernel
theorem dX5_firstError_5 : decode cX5_firstError 5 = .ok (.aload_n 0, 1) := by decide +kernel
theorem dX5_firstError_6 : decode cX5_firstError 6 = .ok (.invokevirtual 136, 3) := by decide +kernel
theorem dX5_firstError_9 : decode cX5_firstError 9 = .ok (.ifCond .eq 10, 3) := by decide +kernel
theorem dX5_firstError_12 : decode cX5_firstError 12 = .ok (.aload_n 0, 1) := by decide +kernel
theorem dX5_firstError_13 : decode cX5_firstError 13 = .ok (.getfield 113, 3) := by decide +kernel
theorem dX5_firstError_16 : decode cX5_firstError 16 = .ok (.goto 7, 3) := by decide +kernel
theorem dX5_firstError_19 : decode cX5_firstError 19 = .ok (.aload_n 0, 1) := by decide +kernel
theorem dX5_firstError_20 : decode cX5_firstError 20 = .ok (.getfield 116, 3) := by decide +kernel
theorem dX5_firstError_23 : decode cX5_firstError 23 = .ok (.ireturn, 1) := by decide +kernel
set_option maxRecDepth 20000 in
theorem ggX5_load_X5_readText : GoodIn wsX5_load wsX5_readText := goodIn_r _ [10, 11, 3, 5, 1, 12, 13, 14, 9, 15, 16, 4, 17, 18, 19, 20, 21, 22, 23, 24, 25, 26, 101, 102, 103, 104, 105, 106, 107, 108, 109, 110, 111, 112, 113] (by decide +kernel) (by decide +kernel)
set_option maxRecDepth 20000 in
theorem gX5_load_X5_readText : GoodIn wsX5_load (wsV RX5 136 RX5 yX5_readText wsX5_readText) := goodIn_app (goodIn_of _ (by decide +kernel)) ggX5_load_X5_readText
set_option maxRecDepth 20000 in
theorem ggX5_load_X5_refused : GoodIn wsX5_load wsX5_refused := goodIn_r _ [30, 31, 101, 102, 103, 104, 105, 106, 107, 108, 109, 110, 111, 112, 113] (by decide +kernel) (by decide +kernel)
set_option maxRecDepth 20000 in
theorem gX5_load_X5_refused : GoodIn wsX5_load (wsV RX5 54 RX5 yX5_refused wsX5_refused) := goodIn_app (goodIn_of _ (by decide +kernel)) ggX5_load_X5_refused
set_option maxRecDepth 20000 in
theorem ggX5_load_X5_saveState : GoodIn wsX5_load wsX5_saveState := goodIn_r _ [35, 36, 37, 2, 38, 39, 9, 40, 101, 102, 103, 104, 105, 106, 107, 108, 109, 110, 111, 112, 113] (by decide +kernel) (by decide +kernel)
set_option maxRecDepth 20000 in
theorem gX5_load_X5_saveState : GoodIn wsX5_load (wsV RX5 47 RX5 yX5_saveState wsX5_saveState) := goodIn_app (goodIn_of _ (by decide +kernel)) ggX5_load_X5_saveState
set_option maxRecDepth 20000 in
theorem ggX5_load_X5_sendNow : GoodIn wsX5_load wsX5_sendNow := goodIn_r _ [44, 45, 46, 9, 47, 48, 49, 50, 51, 2, 101, 102, 103, 104, 105, 106, 107, 108, 109, 110, 111, 112, 113] (by decide +kernel) (by decide +kernel)
set_option maxRecDepth 20000 in
theorem gX5_load_X5_sendNow : GoodIn wsX5_load (wsV RX5 107 RX5 yX5_sendNow wsX5_sendNow) := goodIn_app (goodIn_of _ (by decide +kernel)) ggX5_load_X5_sendNow
set_option maxRecDepth 20000 in
theorem ggX5_load_X5_gapNow : GoodIn wsX5_load wsX5_gapNow := goodIn_r _ [55, 56, 2, 57, 58, 59, 9, 60, 61, 62, 63, 64, 65, 66, 67, 68, 69, 70, 71, 72, 73, 74, 75, 76, 77, 78, 79, 80, 81, 82, 83, 84, 85, 86, 87, 88, 89, 90, 91, 92, 93, 94, 95, 96, 45, 46, 47, 97, 98, 99, 100, 101, 102, 103, 104, 105, 106, 107, 108, 109, 110, 111, 112, 113] (by decide +kernel) (by decide +kernel)
set_option maxRecDepth 20000 in
theorem gX5_load_X5_gapNow : GoodIn wsX5_load (wsV RX5 110 RX5 yX5_gapNow wsX5_gapNow) := goodIn_app (goodIn_of _ (by decide +kernel)) ggX5_load_X5_gapNow
theorem dX5_load_0 : decode cX5_load 0 = .ok (.aload_n 0, 1) := by decide +kernel
theorem dX5_load_1 : decode cX5_load 1 = .ok (.aload_n 0, 1) := by decide +kernel
theorem dX5_load_2 : decode cX5_load 2 = .ok (.invokevirtual 136, 3) := by decide +kernel
theorem dX5_load_5 : decode cX5_load 5 = .ok (.ifCond .eq 7, 3) := by decide +kernel
theorem dX5_load_8 : decode cX5_load 8 = .ok (.iconst 0, 1) := by decide +kernel
theorem dX5_load_9 : decode cX5_load 9 = .ok (.goto 4, 3) := by decide +kernel
theorem dX5_load_12 : decode cX5_load 12 = .ok (.iconst 1, 1) := by decide +kernel
theorem dX5_load_13 : decode cX5_load 13 = .ok (.invokevirtual 54, 3) := by decide +kernel
theorem dX5_load_16 : decode cX5_load 16 = .ok (.ifCond .eq 5, 3) := by decide +kernel
theorem dX5_load_19 : decode cX5_load 19 = .ok (.iconst 0, 1) := by decide +kernel
theorem dX5_load_20 : decode cX5_load 20 = .ok (.ireturn, 1) := by decide +kernel
theorem dX5_load_21 : decode cX5_load 21 = .ok (.aload_n 0, 1) := by decide +kernel
theorem dX5_load_22 : decode cX5_load 22 = .ok (.invokevirtual 47, 3) := by decide +kernel
theorem dX5_load_25 : decode cX5_load 25 = .ok (.aload_n 0, 1) := by decide +kernel
theorem dX5_load_26 : decode cX5_load 26 = .ok (.iconst 0, 1) := by decide +kernel
theorem dX5_load_27 : decode cX5_load 27 = .ok (.putfield 113, 3) := by decide +kernel
theorem dX5_load_30 : decode cX5_load 30 = .ok (.aload_n 0, 1) := by decide +kernel
theorem dX5_load_31 : decode cX5_load 31 = .ok (.getfield 7, 3) := by decide +kernel
theorem dX5_load_34 : decode cX5_load 34 = .ok (.bipush 49, 2) := by decide +kernel
theorem dX5_load_36 : decode cX5_load 36 = .ok (.iaload, 1) := by decide +kernel
theorem dX5_load_37 : decode cX5_load 37 = .ok (.bipush 12, 2) := by decide +kernel
theorem dX5_load_39 : decode cX5_load 39 = .ok (.aload_n 0, 1) := by decide +kernel
theorem dX5_load_40 : decode cX5_load 40 = .ok (.getfield 122, 3) := by decide +kernel
theorem dX5_load_43 : decode cX5_load 43 = .ok (.imul, 1) := by decide +kernel
theorem dX5_load_44 : decode cX5_load 44 = .ok (.iadd, 1) := by decide +kernel
theorem dX5_load_45 : decode cX5_load 45 = .ok (.bipush 120, 2) := by decide +kernel
theorem dX5_load_47 : decode cX5_load 47 = .ok (.if_icmp .le 16, 3) := by decide +kernel
theorem dX5_load_50 : decode cX5_load 50 = .ok (.aload_n 0, 1) := by decide +kernel
theorem dX5_load_51 : decode cX5_load 51 = .ok (.getfield 7, 3) := by decide +kernel
theorem dX5_load_54 : decode cX5_load 54 = .ok (.bipush 48, 2) := by decide +kernel
theorem dX5_load_56 : decode cX5_load 56 = .ok (.dup2, 1) := by decide +kernel
theorem dX5_load_57 : decode cX5_load 57 = .ok (.iaload, 1) := by decide +kernel
theorem dX5_load_58 : decode cX5_load 58 = .ok (.iconst 1, 1) := by decide +kernel
theorem dX5_load_59 : decode cX5_load 59 = .ok (.iadd, 1) := by decide +kernel
theorem dX5_load_60 : decode cX5_load 60 = .ok (.iastore, 1) := by decide +kernel
theorem dX5_load_61 : decode cX5_load 61 = .ok (.iconst (-1), 1) := by decide +kernel
theorem dX5_load_62 : decode cX5_load 62 = .ok (.ireturn, 1) := by decide +kernel
theorem dX5_load_63 : decode cX5_load 63 = .ok (.iconst 0, 1) := by decide +kernel
theorem dX5_load_64 : decode cX5_load 64 = .ok (.istore_n 1, 1) := by decide +kernel
theorem dX5_load_65 : decode cX5_load 65 = .ok (.iload_n 1, 1) := by decide +kernel
theorem dX5_load_66 : decode cX5_load 66 = .ok (.aload_n 0, 1) := by decide +kernel
theorem dX5_load_67 : decode cX5_load 67 = .ok (.getfield 122, 3) := by decide +kernel
theorem dX5_load_70 : decode cX5_load 70 = .ok (.if_icmp .ge 19, 3) := by decide +kernel
theorem dX5_load_73 : decode cX5_load 73 = .ok (.aload_n 0, 1) := by decide +kernel
theorem dX5_load_74 : decode cX5_load 74 = .ok (.aload_n 0, 1) := by decide +kernel
theorem dX5_load_75 : decode cX5_load 75 = .ok (.getfield 30, 3) := by decide +kernel
theorem dX5_load_78 : decode cX5_load 78 = .ok (.iload_n 1, 1) := by decide +kernel
theorem dX5_load_79 : decode cX5_load 79 = .ok (.iaload, 1) := by decide +kernel
theorem dX5_load_80 : decode cX5_load 80 = .ok (.invokevirtual 107, 3) := by decide +kernel
theorem dX5_load_83 : decode cX5_load 83 = .ok (.iinc 1 1, 3) := by decide +kernel
theorem dX5_load_86 : decode cX5_load 86 = .ok (.goto (-21), 3) := by decide +kernel
theorem dX5_load_89 : decode cX5_load 89 = .ok (.aload_n 0, 1) := by decide +kernel
theorem dX5_load_90 : decode cX5_load 90 = .ok (.getfield 132, 3) := by decide +kernel
theorem dX5_load_93 : decode cX5_load 93 = .ok (.ifCond .eq 8, 3) := by decide +kernel
theorem dX5_load_96 : decode cX5_load 96 = .ok (.aload_n 0, 1) := by decide +kernel
theorem dX5_load_97 : decode cX5_load 97 = .ok (.invokevirtual 110, 3) := by decide +kernel
theorem dX5_load_100 : decode cX5_load 100 = .ok (.pop, 1) := by decide +kernel
theorem dX5_load_101 : decode cX5_load 101 = .ok (.aload_n 0, 1) := by decide +kernel
theorem dX5_load_102 : decode cX5_load 102 = .ok (.getfield 122, 3) := by decide +kernel
theorem dX5_load_105 : decode cX5_load 105 = .ok (.ireturn, 1) := by decide +kernel
set_option maxRecDepth 20000 in
theorem ggX5_keep_X5_in : GoodIn wsX5_keep wsX5_in := goodIn_r _ [7] (by decide +kernel) (by decide +kernel)
set_option maxRecDepth 20000 in
theorem gX5_keep_X5_in : GoodIn wsX5_keep (va_wsS RX5 36 yX5_in wsX5_in) := goodIn_app (goodIn_of _ (by decide +kernel)) ggX5_keep_X5_in
set_option maxRecDepth 20000 in
theorem ggX5_keep_X5_refused : GoodIn wsX5_keep wsX5_refused := goodIn_r _ [11, 12, 16, 17, 18, 19, 20, 21, 22, 23, 24, 25, 26, 27, 28] (by decide +kernel) (by decide +kernel)
set_option maxRecDepth 20000 in
theorem gX5_keep_X5_refused : GoodIn wsX5_keep (wsV RX5 54 RX5 yX5_refused wsX5_refused) := goodIn_app (goodIn_of _ (by decide +kernel)) ggX5_keep_X5_refused
set_option maxRecDepth 20000 in
theorem ggX5_keep_X5_copyState : GoodIn wsX5_keep wsX5_copyState := goodIn_r _ [15] (by decide +kernel) (by decide +kernel)
set_option maxRecDepth 20000 in
theorem gX5_keep_X5_copyState : GoodIn wsX5_keep (va_wsS RX5 43 yX5_copyState wsX5_copyState) := goodIn_app (goodIn_of _ (by decide +kernel)) ggX5_keep_X5_copyState
theorem dX5_keep_0 : decode cX5_keep 0 = .ok (.aload_n 0, 1) := by decide +kernel
theorem dX5_keep_1 : decode cX5_keep 1 = .ok (.iload_n 1, 1) := by decide +kernel
theorem dX5_keep_2 : decode cX5_keep 2 = .ok (.iconst 0, 1) := by decide +kernel
theorem dX5_keep_3 : decode cX5_keep 3 = .ok (.iconst 1, 1) := by decide +kernel
theorem dX5_keep_4 : decode cX5_keep 4 = .ok (.invokestatic 36, 3) := by decide +kernel
theorem dX5_keep_7 : decode cX5_keep 7 = .ok (.ifCond .eq 7, 3) := by decide +kernel
theorem dX5_keep_10 : decode cX5_keep 10 = .ok (.iconst 0, 1) := by decide +kernel
theorem dX5_keep_11 : decode cX5_keep 11 = .ok (.goto 4, 3) := by decide +kernel
theorem dX5_keep_14 : decode cX5_keep 14 = .ok (.iconst 1, 1) := by decide +kernel
theorem dX5_keep_15 : decode cX5_keep 15 = .ok (.invokevirtual 54, 3) := by decide +kernel
theorem dX5_keep_18 : decode cX5_keep 18 = .ok (.ifCond .eq 5, 3) := by decide +kernel
theorem dX5_keep_21 : decode cX5_keep 21 = .ok (.iconst 0, 1) := by decide +kernel
theorem dX5_keep_22 : decode cX5_keep 22 = .ok (.ireturn, 1) := by decide +kernel
theorem dX5_keep_23 : decode cX5_keep 23 = .ok (.aload_n 0, 1) := by decide +kernel
theorem dX5_keep_24 : decode cX5_keep 24 = .ok (.getfield 7, 3) := by decide +kernel
theorem dX5_keep_27 : decode cX5_keep 27 = .ok (.iconst 0, 1) := by decide +kernel
theorem dX5_keep_28 : decode cX5_keep 28 = .ok (.aload_n 0, 1) := by decide +kernel
theorem dX5_keep_29 : decode cX5_keep 29 = .ok (.getfield 16, 3) := by decide +kernel
theorem dX5_keep_32 : decode cX5_keep 32 = .ok (.sipush 170, 3) := by decide +kernel
theorem dX5_keep_35 : decode cX5_keep 35 = .ok (.iload_n 1, 1) := by decide +kernel
theorem dX5_keep_36 : decode cX5_keep 36 = .ok (.imul, 1) := by decide +kernel
theorem dX5_keep_37 : decode cX5_keep 37 = .ok (.invokestatic 43, 3) := by decide +kernel
theorem dX5_keep_40 : decode cX5_keep 40 = .ok (.aload_n 0, 1) := by decide +kernel
theorem dX5_keep_41 : decode cX5_keep 41 = .ok (.getfield 19, 3) := by decide +kernel
theorem dX5_keep_44 : decode cX5_keep 44 = .ok (.iload_n 1, 1) := by decide +kernel
theorem dX5_keep_45 : decode cX5_keep 45 = .ok (.iconst 1, 1) := by decide +kernel
theorem dX5_keep_46 : decode cX5_keep 46 = .ok (.bastore, 1) := by decide +kernel
theorem dX5_keep_47 : decode cX5_keep 47 = .ok (.aload_n 0, 1) := by decide +kernel
theorem dX5_keep_48 : decode cX5_keep 48 = .ok (.getfield 7, 3) := by decide +kernel
theorem dX5_keep_51 : decode cX5_keep 51 = .ok (.bipush 49, 2) := by decide +kernel
theorem dX5_keep_53 : decode cX5_keep 53 = .ok (.iaload, 1) := by decide +kernel
theorem dX5_keep_54 : decode cX5_keep 54 = .ok (.ireturn, 1) := by decide +kernel
set_option maxRecDepth 20000 in
theorem ggX5_goBack_X5_in : GoodIn wsX5_goBack wsX5_in := goodIn_r _ [7] (by decide +kernel) (by decide +kernel)
set_option maxRecDepth 20000 in
theorem gX5_goBack_X5_in : GoodIn wsX5_goBack (va_wsS RX5 36 yX5_in wsX5_in) := goodIn_app (goodIn_of _ (by decide +kernel)) ggX5_goBack_X5_in
set_option maxRecDepth 20000 in
theorem ggX5_goBack_X5_refused : GoodIn wsX5_goBack wsX5_refused := goodIn_r _ [11, 12, 22, 23, 24, 25, 26, 27, 28, 29, 30, 31, 32, 33, 34] (by decide +kernel) (by decide +kernel)
set_option maxRecDepth 20000 in
theorem gX5_goBack_X5_refused : GoodIn wsX5_goBack (wsV RX5 54 RX5 yX5_refused wsX5_refused) := goodIn_app (goodIn_of _ (by decide +kernel)) ggX5_goBack_X5_refused
set_option maxRecDepth 20000 in
theorem ggX5_goBack_X5_saveState : GoodIn wsX5_goBack wsX5_saveState := goodIn_r _ [16, 17, 18, 3, 19, 20, 6, 21, 22, 23, 24, 25, 26, 27, 28, 29, 30, 31, 32, 33, 34] (by decide +kernel) (by decide +kernel)
set_option maxRecDepth 20000 in
theorem gX5_goBack_X5_saveState : GoodIn wsX5_goBack (wsV RX5 47 RX5 yX5_saveState wsX5_saveState) := goodIn_app (goodIn_of _ (by decide +kernel)) ggX5_goBack_X5_saveState
set_option maxRecDepth 20000 in
theorem ggX5_goBack_X5_copyState : GoodIn wsX5_goBack wsX5_copyState := goodIn_r _ [21] (by decide +kernel) (by decide +kernel)
set_option maxRecDepth 20000 in
theorem gX5_goBack_X5_copyState : GoodIn wsX5_goBack (va_wsS RX5 43 yX5_copyState wsX5_copyState) := goodIn_app (goodIn_of _ (by decide +kernel)) ggX5_goBack_X5_copyState
theorem dX5_goBack_0 : decode cX5_goBack 0 = .ok (.aload_n 0, 1) := by decide +kernel
theorem dX5_goBack_1 : decode cX5_goBack 1 = .ok (.iload_n 1, 1) := by decide +kernel
theorem dX5_goBack_2 : decode cX5_goBack 2 = .ok (.iconst 0, 1) := by decide +kernel
theorem dX5_goBack_3 : decode cX5_goBack 3 = .ok (.iconst 1, 1) := by decide +kernel
theorem dX5_goBack_4 : decode cX5_goBack 4 = .ok (.invokestatic 36, 3) := by decide +kernel
theorem dX5_goBack_7 : decode cX5_goBack 7 = .ok (.ifCond .ne 7, 3) := by decide +kernel
theorem dX5_goBack_10 : decode cX5_goBack 10 = .ok (.iconst 1, 1) := by decide +kernel
theorem dX5_goBack_11 : decode cX5_goBack 11 = .ok (.goto 17, 3) := by decide +kernel
theorem dX5_goBack_14 : decode cX5_goBack 14 = .ok (.aload_n 0, 1) := by decide +kernel
theorem dX5_goBack_15 : decode cX5_goBack 15 = .ok (.getfield 19, 3) := by decide +kernel
theorem dX5_goBack_18 : decode cX5_goBack 18 = .ok (.iload_n 1, 1) := by decide +kernel
theorem dX5_goBack_19 : decode cX5_goBack 19 = .ok (.baload, 1) := by decide +kernel
theorem dX5_goBack_20 : decode cX5_goBack 20 = .ok (.ifCond .eq 7, 3) := by decide +kernel
theorem dX5_goBack_23 : decode cX5_goBack 23 = .ok (.iconst 0, 1) := by decide +kernel
theorem dX5_goBack_24 : decode cX5_goBack 24 = .ok (.goto 4, 3) := by decide +kernel
theorem dX5_goBack_27 : decode cX5_goBack 27 = .ok (.iconst 2, 1) := by decide +kernel
theorem dX5_goBack_28 : decode cX5_goBack 28 = .ok (.invokevirtual 54, 3) := by decide +kernel
theorem dX5_goBack_31 : decode cX5_goBack 31 = .ok (.ifCond .eq 5, 3) := by decide +kernel
theorem dX5_goBack_34 : decode cX5_goBack 34 = .ok (.iconst 0, 1) := by decide +kernel
theorem dX5_goBack_35 : decode cX5_goBack 35 = .ok (.ireturn, 1) := by decide +kernel
theorem dX5_goBack_36 : decode cX5_goBack 36 = .ok (.aload_n 0, 1) := by decide +kernel
theorem dX5_goBack_37 : decode cX5_goBack 37 = .ok (.invokevirtual 47, 3) := by decide +kernel
theorem dX5_goBack_40 : decode cX5_goBack 40 = .ok (.aload_n 0, 1) := by decide +kernel
theorem dX5_goBack_41 : decode cX5_goBack 41 = .ok (.getfield 16, 3) := by decide +kernel
theorem dX5_goBack_44 : decode cX5_goBack 44 = .ok (.sipush 170, 3) := by decide +kernel
theorem dX5_goBack_47 : decode cX5_goBack 47 = .ok (.iload_n 1, 1) := by decide +kernel
theorem dX5_goBack_48 : decode cX5_goBack 48 = .ok (.imul, 1) := by decide +kernel
theorem dX5_goBack_49 : decode cX5_goBack 49 = .ok (.aload_n 0, 1) := by decide +kernel
theorem dX5_goBack_50 : decode cX5_goBack 50 = .ok (.getfield 7, 3) := by decide +kernel
theorem dX5_goBack_53 : decode cX5_goBack 53 = .ok (.iconst 0, 1) := by decide +kernel
theorem dX5_goBack_54 : decode cX5_goBack 54 = .ok (.invokestatic 43, 3) := by decide +kernel
theorem dX5_goBack_57 : decode cX5_goBack 57 = .ok (.aload_n 0, 1) := by decide +kernel
theorem dX5_goBack_58 : decode cX5_goBack 58 = .ok (.getfield 7, 3) := by decide +kernel
theorem dX5_goBack_61 : decode cX5_goBack 61 = .ok (.bipush 49, 2) := by decide +kernel
theorem dX5_goBack_63 : decode cX5_goBack 63 = .ok (.iaload, 1) := by decide +kernel
theorem dX5_goBack_64 : decode cX5_goBack 64 = .ok (.ireturn, 1) := by decide +kernel
set_option maxRecDepth 20000 in
theorem ggX5_undo_X5_refused : GoodIn wsX5_undo wsX5_refused := goodIn_r _ [8, 9, 13, 14, 15, 16, 17, 18, 19, 20, 21, 22, 23, 24, 25] (by decide +kernel) (by decide +kernel)
set_option maxRecDepth 20000 in
theorem gX5_undo_X5_refused : GoodIn wsX5_undo (wsV RX5 54 RX5 yX5_refused wsX5_refused) := goodIn_app (goodIn_of _ (by decide +kernel)) ggX5_undo_X5_refused
set_option maxRecDepth 20000 in
theorem ggX5_undo_X5_copyState : GoodIn wsX5_undo wsX5_copyState := goodIn_r _ [12] (by decide +kernel) (by decide +kernel)
set_option maxRecDepth 20000 in
theorem gX5_undo_X5_copyState : GoodIn wsX5_undo (va_wsS RX5 43 yX5_copyState wsX5_copyState) := goodIn_app (goodIn_of _ (by decide +kernel)) ggX5_undo_X5_copyState
theorem dX5_undo_0 : decode cX5_undo 0 = .ok (.aload_n 0, 1) := by decide +kernel
theorem dX5_undo_1 : decode cX5_undo 1 = .ok (.aload_n 0, 1) := by decide +kernel
theorem dX5_undo_2 : decode cX5_undo 2 = .ok (.getfield 40, 3) := by decide +kernel
theorem dX5_undo_5 : decode cX5_undo 5 = .ok (.ifCond .ne 7, 3) := by decide +kernel
theorem dX5_undo_8 : decode cX5_undo 8 = .ok (.iconst 1, 1) := by decide +kernel
theorem dX5_undo_9 : decode cX5_undo 9 = .ok (.goto 4, 3) := by decide +kernel
theorem dX5_undo_12 : decode cX5_undo 12 = .ok (.iconst 0, 1) := by decide +kernel
theorem dX5_undo_13 : decode cX5_undo 13 = .ok (.invokevirtual 54, 3) := by decide +kernel
theorem dX5_undo_16 : decode cX5_undo 16 = .ok (.ifCond .eq 5, 3) := by decide +kernel
theorem dX5_undo_19 : decode cX5_undo 19 = .ok (.iconst 0, 1) := by decide +kernel
theorem dX5_undo_20 : decode cX5_undo 20 = .ok (.ireturn, 1) := by decide +kernel
theorem dX5_undo_21 : decode cX5_undo 21 = .ok (.aload_n 0, 1) := by decide +kernel
theorem dX5_undo_22 : decode cX5_undo 22 = .ok (.dup, 1) := by decide +kernel
theorem dX5_undo_23 : decode cX5_undo 23 = .ok (.getfield 40, 3) := by decide +kernel
theorem dX5_undo_26 : decode cX5_undo 26 = .ok (.iconst 1, 1) := by decide +kernel
theorem dX5_undo_27 : decode cX5_undo 27 = .ok (.isub, 1) := by decide +kernel
theorem dX5_undo_28 : decode cX5_undo 28 = .ok (.putfield 40, 3) := by decide +kernel
theorem dX5_undo_31 : decode cX5_undo 31 = .ok (.aload_n 0, 1) := by decide +kernel
theorem dX5_undo_32 : decode cX5_undo 32 = .ok (.getfield 13, 3) := by decide +kernel
theorem dX5_undo_35 : decode cX5_undo 35 = .ok (.sipush 170, 3) := by decide +kernel
theorem dX5_undo_38 : decode cX5_undo 38 = .ok (.aload_n 0, 1) := by decide +kernel
theorem dX5_undo_39 : decode cX5_undo 39 = .ok (.getfield 40, 3) := by decide +kernel
theorem dX5_undo_42 : decode cX5_undo 42 = .ok (.imul, 1) := by decide +kernel
theorem dX5_undo_43 : decode cX5_undo 43 = .ok (.aload_n 0, 1) := by decide +kernel
theorem dX5_undo_44 : decode cX5_undo 44 = .ok (.getfield 7, 3) := by decide +kernel
theorem dX5_undo_47 : decode cX5_undo 47 = .ok (.iconst 0, 1) := by decide +kernel
theorem dX5_undo_48 : decode cX5_undo 48 = .ok (.invokestatic 43, 3) := by decide +kernel
theorem dX5_undo_51 : decode cX5_undo 51 = .ok (.aload_n 0, 1) := by decide +kernel
theorem dX5_undo_52 : decode cX5_undo 52 = .ok (.getfield 40, 3) := by decide +kernel
theorem dX5_undo_55 : decode cX5_undo 55 = .ok (.ireturn, 1) := by decide +kernel
theorem dX5_colour_0 : decode cX5_colour 0 = .ok (.iload_n 0, 1) := by decide +kernel
theorem dX5_colour_1 : decode cX5_colour 1 = .ok (.iconst 4, 1) := by decide +kernel
theorem dX5_colour_2 : decode cX5_colour 2 = .ok (.iconst 2, 1) := by decide +kernel
theorem dX5_colour_3 : decode cX5_colour 3 = .ok (.iload_n 1, 1) := by decide +kernel
theorem dX5_colour_4 : decode cX5_colour 4 = .ok (.isub, 1) := by decide +kernel
theorem dX5_colour_5 : decode cX5_colour 5 = .ok (.imul, 1) := by decide +kernel
theorem dX5_colour_6 : decode cX5_colour 6 = .ok (.ishr, 1) := by decide +kernel
theorem dX5_colour_7 : decode cX5_colour 7 = .ok (.bipush 15, 2) := by decide +kernel
theorem dX5_colour_9 : decode cX5_colour 9 = .ok (.iand, 1) := by decide +kernel
theorem dX5_colour_10 : decode cX5_colour 10 = .ok (.ireturn, 1) := by decide +kernel
set_option maxRecDepth 20000 in
theorem ggX5_wanted_X5_colour : GoodIn wsX5_wanted wsX5_colour := goodIn_r _ [5] (by decide +kernel) (by decide +kernel)
set_option maxRecDepth 20000 in
theorem gX5_wanted_X5_colour : GoodIn wsX5_wanted (va_wsS RX5 139 yX5_colour wsX5_colour) := goodIn_app (goodIn_of _ (by decide +kernel)) ggX5_wanted_X5_colour
theorem dX5_wanted_0 : decode cX5_wanted 0 = .ok (.iconst 0, 1) := by decide +kernel
theorem dX5_wanted_1 : decode cX5_wanted 1 = .ok (.istore_n 1, 1) := by decide +kernel
theorem dX5_wanted_2 : decode cX5_wanted 2 = .ok (.iconst 0, 1) := by decide +kernel
theorem dX5_wanted_3 : decode cX5_wanted 3 = .ok (.istore_n 2, 1) := by decide +kernel
theorem dX5_wanted_4 : decode cX5_wanted 4 = .ok (.iload_n 2, 1) := by decide +kernel
theorem dX5_wanted_5 : decode cX5_wanted 5 = .ok (.bipush 8, 2) := by decide +kernel
theorem dX5_wanted_7 : decode cX5_wanted 7 = .ok (.if_icmp .ge 38, 3) := by decide +kernel
theorem dX5_wanted_10 : decode cX5_wanted 10 = .ok (.iconst 0, 1) := by decide +kernel
theorem dX5_wanted_11 : decode cX5_wanted 11 = .ok (.istore_n 3, 1) := by decide +kernel
theorem dX5_wanted_12 : decode cX5_wanted 12 = .ok (.iload_n 3, 1) := by decide +kernel
theorem dX5_wanted_13 : decode cX5_wanted 13 = .ok (.iconst 3, 1) := by decide +kernel
theorem dX5_wanted_14 : decode cX5_wanted 14 = .ok (.if_icmp .ge 25, 3) := by decide +kernel
theorem dX5_wanted_17 : decode cX5_wanted 17 = .ok (.iload_n 1, 1) := by decide +kernel
theorem dX5_wanted_18 : decode cX5_wanted 18 = .ok (.aload_n 0, 1) := by decide +kernel
theorem dX5_wanted_19 : decode cX5_wanted 19 = .ok (.getfield 7, 3) := by decide +kernel
theorem dX5_wanted_22 : decode cX5_wanted 22 = .ok (.bipush 24, 2) := by decide +kernel
theorem dX5_wanted_24 : decode cX5_wanted 24 = .ok (.iload_n 2, 1) := by decide +kernel
theorem dX5_wanted_25 : decode cX5_wanted 25 = .ok (.iadd, 1) := by decide +kernel
theorem dX5_wanted_26 : decode cX5_wanted 26 = .ok (.iaload, 1) := by decide +kernel
theorem dX5_wanted_27 : decode cX5_wanted 27 = .ok (.iload_n 3, 1) := by decide +kernel
theorem dX5_wanted_28 : decode cX5_wanted 28 = .ok (.invokestatic 139, 3) := by decide +kernel
theorem dX5_wanted_31 : decode cX5_wanted 31 = .ok (.iadd, 1) := by decide +kernel
theorem dX5_wanted_32 : decode cX5_wanted 32 = .ok (.istore_n 1, 1) := by decide +kernel
theorem dX5_wanted_33 : decode cX5_wanted 33 = .ok (.iinc 3 1, 3) := by decide +kernel
theorem dX5_wanted_36 : decode cX5_wanted 36 = .ok (.goto (-24), 3) := by decide +kernel
theorem dX5_wanted_39 : decode cX5_wanted 39 = .ok (.iinc 2 1, 3) := by decide +kernel
theorem dX5_wanted_42 : decode cX5_wanted 42 = .ok (.goto (-38), 3) := by decide +kernel
theorem dX5_wanted_45 : decode cX5_wanted 45 = .ok (.iload_n 1, 1) := by decide +kernel
theorem dX5_wanted_46 : decode cX5_wanted 46 = .ok (.ireturn, 1) := by decide +kernel
set_option maxRecDepth 20000 in
theorem ggX5_shown_X5_wanted : GoodIn wsX5_shown wsX5_wanted := goodIn_r _ [6, 1, 7, 8, 5, 9, 10, 11, 12, 13, 14, 15, 16, 17, 18, 19, 20, 21, 22] (by decide +kernel) (by decide +kernel)
set_option maxRecDepth 20000 in
theorem gX5_shown_X5_wanted : GoodIn wsX5_shown (wsV RX5 142 RX5 yX5_wanted wsX5_wanted) := goodIn_app (goodIn_of _ (by decide +kernel)) ggX5_shown_X5_wanted
set_option maxRecDepth 20000 in
theorem ggX5_shown_X5_colour : GoodIn wsX5_shown wsX5_colour := goodIn_r _ [9] (by decide +kernel) (by decide +kernel)
set_option maxRecDepth 20000 in
theorem gX5_shown_X5_colour : GoodIn wsX5_shown (va_wsS RX5 139 yX5_colour wsX5_colour) := goodIn_app (goodIn_of _ (by decide +kernel)) ggX5_shown_X5_colour
theorem dX5_shown_0 : decode cX5_shown 0 = .ok (.aload_n 0, 1) := by decide +kernel
theorem dX5_shown_1 : decode cX5_shown 1 = .ok (.invokevirtual 142, 3) := by decide +kernel
theorem dX5_shown_4 : decode cX5_shown 4 = .ok (.istore_n 3, 1) := by decide +kernel
theorem dX5_shown_5 : decode cX5_shown 5 = .ok (.aload_n 0, 1) := by decide +kernel
theorem dX5_shown_6 : decode cX5_shown 6 = .ok (.getfield 7, 3) := by decide +kernel
theorem dX5_shown_9 : decode cX5_shown 9 = .ok (.bipush 24, 2) := by decide +kernel
theorem dX5_shown_11 : decode cX5_shown 11 = .ok (.iload_n 1, 1) := by decide +kernel
theorem dX5_shown_12 : decode cX5_shown 12 = .ok (.iadd, 1) := by decide +kernel
theorem dX5_shown_13 : decode cX5_shown 13 = .ok (.iaload, 1) := by decide +kernel
theorem dX5_shown_14 : decode cX5_shown 14 = .ok (.iload_n 2, 1) := by decide +kernel
theorem dX5_shown_15 : decode cX5_shown 15 = .ok (.invokestatic 139, 3) := by decide +kernel
theorem dX5_shown_18 : decode cX5_shown 18 = .ok (.istore 4, 2) := by decide +kernel
theorem dX5_shown_20 : decode cX5_shown 20 = .ok (.iload_n 3, 1) := by decide +kernel
theorem dX5_shown_21 : decode cX5_shown 21 = .ok (.aload_n 0, 1) := by decide +kernel
theorem dX5_shown_22 : decode cX5_shown 22 = .ok (.getfield 7, 3) := by decide +kernel
theorem dX5_shown_25 : decode cX5_shown 25 = .ok (.bipush 42, 2) := by decide +kernel
theorem dX5_shown_27 : decode cX5_shown 27 = .ok (.iaload, 1) := by decide +kernel
theorem dX5_shown_28 : decode cX5_shown 28 = .ok (.if_icmp .le 18, 3) := by decide +kernel
theorem dX5_shown_31 : decode cX5_shown 31 = .ok (.iload 4, 2) := by decide +kernel
theorem dX5_shown_33 : decode cX5_shown 33 = .ok (.aload_n 0, 1) := by decide +kernel
theorem dX5_shown_34 : decode cX5_shown 34 = .ok (.getfield 7, 3) := by decide +kernel
theorem dX5_shown_37 : decode cX5_shown 37 = .ok (.bipush 42, 2) := by decide +kernel
theorem dX5_shown_39 : decode cX5_shown 39 = .ok (.iaload, 1) := by decide +kernel
theorem dX5_shown_40 : decode cX5_shown 40 = .ok (.imul, 1) := by decide +kernel
theorem dX5_shown_41 : decode cX5_shown 41 = .ok (.iload_n 3, 1) := by decide +kernel
theorem dX5_shown_42 : decode cX5_shown 42 = .ok (.idiv, 1) := by decide +kernel
theorem dX5_shown_43 : decode cX5_shown 43 = .ok (.goto 5, 3) := by decide +kernel
theorem dX5_shown_46 : decode cX5_shown 46 = .ok (.iload 4, 2) := by decide +kernel
theorem dX5_shown_48 : decode cX5_shown 48 = .ok (.ireturn, 1) := by decide +kernel
set_option maxRecDepth 20000 in
theorem ggX5_allShown_X5_shown : GoodIn wsX5_allShown wsX5_shown := goodIn_r _ [5, 6, 7, 8, 9, 4, 10, 11, 12, 13, 14, 15, 16, 17, 18, 19, 20, 21, 22, 23, 24, 25, 26] (by decide +kernel) (by decide +kernel)
set_option maxRecDepth 20000 in
theorem gX5_allShown_X5_shown : GoodIn wsX5_allShown (wsV RX5 145 RX5 yX5_shown wsX5_shown) := goodIn_app (goodIn_of _ (by decide +kernel)) ggX5_allShown_X5_shown
theorem dX5_allShown_0 : decode cX5_allShown 0 = .ok (.iconst 0, 1) := by decide +kernel
theorem dX5_allShown_1 : decode cX5_allShown 1 = .ok (.istore_n 1, 1) := by decide +kernel
theorem dX5_allShown_2 : decode cX5_allShown 2 = .ok (.iconst 0, 1) := by decide +kernel
theorem dX5_allShown_3 : decode cX5_allShown 3 = .ok (.istore_n 2, 1) := by decide +kernel
theorem dX5_allShown_4 : decode cX5_allShown 4 = .ok (.iload_n 2, 1) := by decide +kernel
theorem dX5_allShown_5 : decode cX5_allShown 5 = .ok (.bipush 8, 2) := by decide +kernel
theorem dX5_allShown_7 : decode cX5_allShown 7 = .ok (.if_icmp .ge 31, 3) := by decide +kernel
theorem dX5_allShown_10 : decode cX5_allShown 10 = .ok (.iconst 0, 1) := by decide +kernel
theorem dX5_allShown_11 : decode cX5_allShown 11 = .ok (.istore_n 3, 1) := by decide +kernel
theorem dX5_allShown_12 : decode cX5_allShown 12 = .ok (.iload_n 3, 1) := by decide +kernel
theorem dX5_allShown_13 : decode cX5_allShown 13 = .ok (.iconst 3, 1) := by decide +kernel
theorem dX5_allShown_14 : decode cX5_allShown 14 = .ok (.if_icmp .ge 18, 3) := by decide +kernel
theorem dX5_allShown_17 : decode cX5_allShown 17 = .ok (.iload_n 1, 1) := by decide +kernel
theorem dX5_allShown_18 : decode cX5_allShown 18 = .ok (.aload_n 0, 1) := by decide +kernel
theorem dX5_allShown_19 : decode cX5_allShown 19 = .ok (.iload_n 2, 1) := by decide +kernel
theorem dX5_allShown_20 : decode cX5_allShown 20 = .ok (.iload_n 3, 1) := by decide +kernel
theorem dX5_allShown_21 : decode cX5_allShown 21 = .ok (.invokevirtual 145, 3) := by decide +kernel
theorem dX5_allShown_24 : decode cX5_allShown 24 = .ok (.iadd, 1) := by decide +kernel
theorem dX5_allShown_25 : decode cX5_allShown 25 = .ok (.istore_n 1, 1) := by decide +kernel
theorem dX5_allShown_26 : decode cX5_allShown 26 = .ok (.iinc 3 1, 3) := by decide +kernel
theorem dX5_allShown_29 : decode cX5_allShown 29 = .ok (.goto (-17), 3) := by decide +kernel
theorem dX5_allShown_32 : decode cX5_allShown 32 = .ok (.iinc 2 1, 3) := by decide +kernel
theorem dX5_allShown_35 : decode cX5_allShown 35 = .ok (.goto (-31), 3) := by decide +kernel
theorem dX5_allShown_38 : decode cX5_allShown 38 = .ok (.iload_n 1, 1) := by decide +kernel
theorem dX5_allShown_39 : decode cX5_allShown 39 = .ok (.ireturn, 1) := by decide +kernel
theorem dX5_shining_0 : decode cX5_shining 0 = .ok (.iconst 0, 1) := by decide +kernel
theorem dX5_shining_1 : decode cX5_shining 1 = .ok (.istore_n 1, 1) := by decide +kernel
theorem dX5_shining_2 : decode cX5_shining 2 = .ok (.iconst 0, 1) := by decide +kernel
theorem dX5_shining_3 : decode cX5_shining 3 = .ok (.istore_n 2, 1) := by decide +kernel
theorem dX5_shining_4 : decode cX5_shining 4 = .ok (.iload_n 2, 1) := by decide +kernel
theorem dX5_shining_5 : decode cX5_shining 5 = .ok (.bipush 8, 2) := by decide +kernel
theorem dX5_shining_7 : decode cX5_shining 7 = .ok (.if_icmp .ge 29, 3) := by decide +kernel
theorem dX5_shining_10 : decode cX5_shining 10 = .ok (.iload_n 1, 1) := by decide +kernel
theorem dX5_shining_11 : decode cX5_shining 11 = .ok (.aload_n 0, 1) := by decide +kernel
theorem dX5_shining_12 : decode cX5_shining 12 = .ok (.getfield 7, 3) := by decide +kernel
theorem dX5_shining_15 : decode cX5_shining 15 = .ok (.bipush 24, 2) := by decide +kernel
theorem dX5_shining_17 : decode cX5_shining 17 = .ok (.iload_n 2, 1) := by decide +kernel
theorem dX5_shining_18 : decode cX5_shining 18 = .ok (.iadd, 1) := by decide +kernel
theorem dX5_shining_19 : decode cX5_shining 19 = .ok (.iaload, 1) := by decide +kernel
theorem dX5_shining_20 : decode cX5_shining 20 = .ok (.ifCond .ne 7, 3) := by decide +kernel
theorem dX5_shining_23 : decode cX5_shining 23 = .ok (.iconst 0, 1) := by decide +kernel
theorem dX5_shining_24 : decode cX5_shining 24 = .ok (.goto 4, 3) := by decide +kernel
theorem dX5_shining_27 : decode cX5_shining 27 = .ok (.iconst 1, 1) := by decide +kernel
theorem dX5_shining_28 : decode cX5_shining 28 = .ok (.iadd, 1) := by decide +kernel
theorem dX5_shining_29 : decode cX5_shining 29 = .ok (.istore_n 1, 1) := by decide +kernel
theorem dX5_shining_30 : decode cX5_shining 30 = .ok (.iinc 2 1, 3) := by decide +kernel
theorem dX5_shining_33 : decode cX5_shining 33 = .ok (.goto (-29), 3) := by decide +kernel
theorem dX5_shining_36 : decode cX5_shining 36 = .ok (.iload_n 1, 1) := by decide +kernel
theorem dX5_shining_37 : decode cX5_shining 37 = .ok (.ireturn, 1) := by decide +kernel
set_option maxRecDepth 20000 in
theorem ggX5_aboutLamp_X5_shown : GoodIn wsX5_aboutLamp wsX5_shown := goodIn_r _ [6, 1, 7, 8, 9, 5, 10, 11, 12, 13, 14, 15, 16, 17, 18, 19, 20, 21, 22, 23, 24, 25, 26] (by decide +kernel) (by decide +kernel)
set_option maxRecDepth 20000 in
theorem gX5_aboutLamp_X5_shown : GoodIn wsX5_aboutLamp (wsV RX5 145 RX5 yX5_shown wsX5_shown) := goodIn_app (goodIn_of _ (by decide +kernel)) ggX5_aboutLamp_X5_shown
theorem dX5_aboutLamp_0 : decode cX5_aboutLamp 0 = .ok (.iload_n 2, 1) := by decide +kernel
theorem dX5_aboutLamp_1 : decode cX5_aboutLamp 1 = .ok (.iconst 4, 1) := by decide +kernel
theorem dX5_aboutLamp_2 : decode cX5_aboutLamp 2 = .ok (.if_icmp .ge 17, 3) := by decide +kernel
theorem dX5_aboutLamp_5 : decode cX5_aboutLamp 5 = .ok (.aload_n 0, 1) := by decide +kernel
theorem dX5_aboutLamp_6 : decode cX5_aboutLamp 6 = .ok (.getfield 7, 3) := by decide +kernel
theorem dX5_aboutLamp_9 : decode cX5_aboutLamp 9 = .ok (.bipush 8, 2) := by decide +kernel
theorem dX5_aboutLamp_11 : decode cX5_aboutLamp 11 = .ok (.iload_n 2, 1) := by decide +kernel
theorem dX5_aboutLamp_12 : decode cX5_aboutLamp 12 = .ok (.imul, 1) := by decide +kernel
theorem dX5_aboutLamp_13 : decode cX5_aboutLamp 13 = .ok (.iload_n 1, 1) := by decide +kernel
theorem dX5_aboutLamp_14 : decode cX5_aboutLamp 14 = .ok (.iadd, 1) := by decide +kernel
theorem dX5_aboutLamp_15 : decode cX5_aboutLamp 15 = .ok (.iaload, 1) := by decide +kernel
theorem dX5_aboutLamp_16 : decode cX5_aboutLamp 16 = .ok (.goto 29, 3) := by decide +kernel
theorem dX5_aboutLamp_19 : decode cX5_aboutLamp 19 = .ok (.iload_n 2, 1) := by decide +kernel
theorem dX5_aboutLamp_20 : decode cX5_aboutLamp 20 = .ok (.bipush 7, 2) := by decide +kernel
theorem dX5_aboutLamp_22 : decode cX5_aboutLamp 22 = .ok (.if_icmp .ge 14, 3) := by decide +kernel
theorem dX5_aboutLamp_25 : decode cX5_aboutLamp 25 = .ok (.aload_n 0, 1) := by decide +kernel
theorem dX5_aboutLamp_26 : decode cX5_aboutLamp 26 = .ok (.iload_n 1, 1) := by decide +kernel
theorem dX5_aboutLamp_27 : decode cX5_aboutLamp 27 = .ok (.iload_n 2, 1) := by decide +kernel
theorem dX5_aboutLamp_28 : decode cX5_aboutLamp 28 = .ok (.iconst 4, 1) := by decide +kernel
theorem dX5_aboutLamp_29 : decode cX5_aboutLamp 29 = .ok (.isub, 1) := by decide +kernel
theorem dX5_aboutLamp_30 : decode cX5_aboutLamp 30 = .ok (.invokevirtual 145, 3) := by decide +kernel
theorem dX5_aboutLamp_33 : decode cX5_aboutLamp 33 = .ok (.goto 12, 3) := by decide +kernel
theorem dX5_aboutLamp_36 : decode cX5_aboutLamp 36 = .ok (.aload_n 0, 1) := by decide +kernel
theorem dX5_aboutLamp_37 : decode cX5_aboutLamp 37 = .ok (.getfield 7, 3) := by decide +kernel
theorem dX5_aboutLamp_40 : decode cX5_aboutLamp 40 = .ok (.bipush 32, 2) := by decide +kernel
theorem dX5_aboutLamp_42 : decode cX5_aboutLamp 42 = .ok (.iload_n 1, 1) := by decide +kernel
theorem dX5_aboutLamp_43 : decode cX5_aboutLamp 43 = .ok (.iadd, 1) := by decide +kernel
theorem dX5_aboutLamp_44 : decode cX5_aboutLamp 44 = .ok (.iaload, 1) := by decide +kernel
theorem dX5_aboutLamp_45 : decode cX5_aboutLamp 45 = .ok (.ireturn, 1) := by decide +kernel
set_option maxRecDepth 20000 in
theorem ggX5_lampOf_X5_isLamp : GoodIn wsX5_lampOf wsX5_isLamp := goodIn_r _ [4, 5, 6, 3, 7] (by decide +kernel) (by decide +kernel)
set_option maxRecDepth 20000 in
theorem gX5_lampOf_X5_isLamp : GoodIn wsX5_lampOf (va_wsS RX5 50 yX5_isLamp wsX5_isLamp) := goodIn_app (goodIn_of _ (by decide +kernel)) ggX5_lampOf_X5_isLamp
set_option maxRecDepth 20000 in
theorem ggX5_lampOf_X5_in : GoodIn wsX5_lampOf wsX5_in := goodIn_r _ [7] (by decide +kernel) (by decide +kernel)
set_option maxRecDepth 20000 in
theorem gX5_lampOf_X5_in : GoodIn wsX5_lampOf (va_wsS RX5 36 yX5_in wsX5_in) := goodIn_app (goodIn_of _ (by decide +kernel)) ggX5_lampOf_X5_in
set_option maxRecDepth 20000 in
theorem ggX5_lampOf_X5_refused : GoodIn wsX5_lampOf wsX5_refused := goodIn_r _ [11, 12, 29, 30, 31, 32, 33, 34, 35, 36, 37, 38, 39, 40, 41] (by decide +kernel) (by decide +kernel)
set_option maxRecDepth 20000 in
theorem gX5_lampOf_X5_refused : GoodIn wsX5_lampOf (wsV RX5 54 RX5 yX5_refused wsX5_refused) := goodIn_app (goodIn_of _ (by decide +kernel)) ggX5_lampOf_X5_refused
set_option maxRecDepth 20000 in
theorem ggX5_lampOf_X5_aboutLamp : GoodIn wsX5_lampOf wsX5_aboutLamp := goodIn_r _ [16, 17, 18, 19, 20, 3, 21, 22, 23, 24, 25, 26, 27, 28, 29, 30, 31, 32, 33, 34, 35, 36, 37, 38, 39, 40, 41] (by decide +kernel) (by decide +kernel)
set_option maxRecDepth 20000 in
theorem gX5_lampOf_X5_aboutLamp : GoodIn wsX5_lampOf (wsV RX5 148 RX5 yX5_aboutLamp wsX5_aboutLamp) := goodIn_app (goodIn_of _ (by decide +kernel)) ggX5_lampOf_X5_aboutLamp
theorem dX5_lampOf_0 : decode cX5_lampOf 0 = .ok (.aload_n 0, 1) := by decide +kernel
theorem dX5_lampOf_1 : decode cX5_lampOf 1 = .ok (.iload_n 1, 1) := by decide +kernel
theorem dX5_lampOf_2 : decode cX5_lampOf 2 = .ok (.invokestatic 50, 3) := by decide +kernel
theorem dX5_lampOf_5 : decode cX5_lampOf 5 = .ok (.ifCond .ne 7, 3) := by decide +kernel
theorem dX5_lampOf_8 : decode cX5_lampOf 8 = .ok (.iconst 1, 1) := by decide +kernel
theorem dX5_lampOf_9 : decode cX5_lampOf 9 = .ok (.goto 18, 3) := by decide +kernel
theorem dX5_lampOf_12 : decode cX5_lampOf 12 = .ok (.iload_n 2, 1) := by decide +kernel
theorem dX5_lampOf_13 : decode cX5_lampOf 13 = .ok (.iconst 0, 1) := by decide +kernel
theorem dX5_lampOf_14 : decode cX5_lampOf 14 = .ok (.bipush 7, 2) := by decide +kernel
theorem dX5_lampOf_16 : decode cX5_lampOf 16 = .ok (.invokestatic 36, 3) := by decide +kernel
theorem dX5_lampOf_19 : decode cX5_lampOf 19 = .ok (.ifCond .eq 7, 3) := by decide +kernel
theorem dX5_lampOf_22 : decode cX5_lampOf 22 = .ok (.iconst 0, 1) := by decide +kernel
theorem dX5_lampOf_23 : decode cX5_lampOf 23 = .ok (.goto 4, 3) := by decide +kernel
theorem dX5_lampOf_26 : decode cX5_lampOf 26 = .ok (.iconst 2, 1) := by decide +kernel
theorem dX5_lampOf_27 : decode cX5_lampOf 27 = .ok (.invokevirtual 54, 3) := by decide +kernel
theorem dX5_lampOf_30 : decode cX5_lampOf 30 = .ok (.ifCond .eq 7, 3) := by decide +kernel
theorem dX5_lampOf_33 : decode cX5_lampOf 33 = .ok (.iconst 0, 1) := by decide +kernel
theorem dX5_lampOf_34 : decode cX5_lampOf 34 = .ok (.goto 9, 3) := by decide +kernel
theorem dX5_lampOf_37 : decode cX5_lampOf 37 = .ok (.aload_n 0, 1) := by decide +kernel
theorem dX5_lampOf_38 : decode cX5_lampOf 38 = .ok (.iload_n 1, 1) := by decide +kernel
theorem dX5_lampOf_39 : decode cX5_lampOf 39 = .ok (.iload_n 2, 1) := by decide +kernel
theorem dX5_lampOf_40 : decode cX5_lampOf 40 = .ok (.invokevirtual 148, 3) := by decide +kernel
theorem dX5_lampOf_43 : decode cX5_lampOf 43 = .ok (.ireturn, 1) := by decide +kernel
set_option maxRecDepth 20000 in
theorem ggX5_pulseAt_X5_refused : GoodIn wsX5_pulseAt wsX5_refused := goodIn_r _ [6, 7, 8, 9, 10, 11, 12, 13, 14, 15, 16, 17, 18, 19, 20] (by decide +kernel) (by decide +kernel)
set_option maxRecDepth 20000 in
theorem gX5_pulseAt_X5_refused : GoodIn wsX5_pulseAt (wsV RX5 54 RX5 yX5_refused wsX5_refused) := goodIn_app (goodIn_of _ (by decide +kernel)) ggX5_pulseAt_X5_refused
theorem dX5_pulseAt_0 : decode cX5_pulseAt 0 = .ok (.aload_n 0, 1) := by decide +kernel
theorem dX5_pulseAt_1 : decode cX5_pulseAt 1 = .ok (.iload_n 1, 1) := by decide +kernel
theorem dX5_pulseAt_2 : decode cX5_pulseAt 2 = .ok (.ifCond .ge 7, 3) := by decide +kernel
theorem dX5_pulseAt_5 : decode cX5_pulseAt 5 = .ok (.iconst 1, 1) := by decide +kernel
theorem dX5_pulseAt_6 : decode cX5_pulseAt 6 = .ok (.goto 4, 3) := by decide +kernel
theorem dX5_pulseAt_9 : decode cX5_pulseAt 9 = .ok (.iconst 0, 1) := by decide +kernel
theorem dX5_pulseAt_10 : decode cX5_pulseAt 10 = .ok (.invokevirtual 54, 3) := by decide +kernel
theorem dX5_pulseAt_13 : decode cX5_pulseAt 13 = .ok (.ifCond .eq 7, 3) := by decide +kernel
theorem dX5_pulseAt_16 : decode cX5_pulseAt 16 = .ok (.iconst 0, 1) := by decide +kernel
theorem dX5_pulseAt_17 : decode cX5_pulseAt 17 = .ok (.goto 27, 3) := by decide +kernel
theorem dX5_pulseAt_20 : decode cX5_pulseAt 20 = .ok (.iload_n 1, 1) := by decide +kernel
theorem dX5_pulseAt_21 : decode cX5_pulseAt 21 = .ok (.aload_n 0, 1) := by decide +kernel
theorem dX5_pulseAt_22 : decode cX5_pulseAt 22 = .ok (.getfield 7, 3) := by decide +kernel
theorem dX5_pulseAt_25 : decode cX5_pulseAt 25 = .ok (.bipush 49, 2) := by decide +kernel
theorem dX5_pulseAt_27 : decode cX5_pulseAt 27 = .ok (.iaload, 1) := by decide +kernel
theorem dX5_pulseAt_28 : decode cX5_pulseAt 28 = .ok (.if_icmp .ge 15, 3) := by decide +kernel
theorem dX5_pulseAt_31 : decode cX5_pulseAt 31 = .ok (.aload_n 0, 1) := by decide +kernel
theorem dX5_pulseAt_32 : decode cX5_pulseAt 32 = .ok (.getfield 7, 3) := by decide +kernel
theorem dX5_pulseAt_35 : decode cX5_pulseAt 35 = .ok (.bipush 50, 2) := by decide +kernel
theorem dX5_pulseAt_37 : decode cX5_pulseAt 37 = .ok (.iload_n 1, 1) := by decide +kernel
theorem dX5_pulseAt_38 : decode cX5_pulseAt 38 = .ok (.iadd, 1) := by decide +kernel
theorem dX5_pulseAt_39 : decode cX5_pulseAt 39 = .ok (.iaload, 1) := by decide +kernel
theorem dX5_pulseAt_40 : decode cX5_pulseAt 40 = .ok (.goto 4, 3) := by decide +kernel
theorem dX5_pulseAt_43 : decode cX5_pulseAt 43 = .ok (.iconst (-1), 1) := by decide +kernel
theorem dX5_pulseAt_44 : decode cX5_pulseAt 44 = .ok (.ireturn, 1) := by decide +kernel
set_option maxRecDepth 20000 in
theorem ggX5_number_X5_wanted : GoodIn wsX5_number wsX5_wanted := goodIn_r _ [7, 1, 8, 9, 6, 10, 23, 24, 25, 26, 27, 28, 29, 30, 31, 32, 33, 34, 35] (by decide +kernel) (by decide +kernel)
set_option maxRecDepth 20000 in
theorem gX5_number_X5_wanted : GoodIn wsX5_number (wsV RX5 142 RX5 yX5_wanted wsX5_wanted) := goodIn_app (goodIn_of _ (by decide +kernel)) ggX5_number_X5_wanted
set_option maxRecDepth 20000 in
theorem ggX5_number_X5_allShown : GoodIn wsX5_number wsX5_allShown := goodIn_r _ [14, 15, 16, 17, 6, 18, 1, 3, 4, 5, 7, 8, 9, 10, 23, 24, 25, 26, 27, 28, 29, 30, 31, 32, 33, 34, 35] (by decide +kernel) (by decide +kernel)
set_option maxRecDepth 20000 in
theorem gX5_number_X5_allShown : GoodIn wsX5_number (wsV RX5 151 RX5 yX5_allShown wsX5_allShown) := goodIn_app (goodIn_of _ (by decide +kernel)) ggX5_number_X5_allShown
set_option maxRecDepth 20000 in
theorem ggX5_number_X5_shining : GoodIn wsX5_number wsX5_shining := goodIn_r _ [22, 1, 23, 24, 25, 26, 27, 28, 29, 30, 31, 32, 33, 34, 35] (by decide +kernel) (by decide +kernel)
set_option maxRecDepth 20000 in
theorem gX5_number_X5_shining : GoodIn wsX5_number (wsV RX5 154 RX5 yX5_shining wsX5_shining) := goodIn_app (goodIn_of _ (by decide +kernel)) ggX5_number_X5_shining
theorem dX5_number_0 : decode cX5_number 0 = .ok (.iload_n 1, 1) := by decide +kernel
theorem dX5_number_1 : decode cX5_number 1 = .ok (.tableswitch 98 0 9 #[55, 63, 63, 63, 63, 63, 75, 80, 85, 90], 55) := by decide +kernel
theorem dX5_number_56 : decode cX5_number 56 = .ok (.aload_n 0, 1) := by decide +kernel
theorem dX5_number_57 : decode cX5_number 57 = .ok (.getfield 7, 3) := by decide +kernel
theorem dX5_number_60 : decode cX5_number 60 = .ok (.bipush 49, 2) := by decide +kernel
theorem dX5_number_62 : decode cX5_number 62 = .ok (.iaload, 1) := by decide +kernel
theorem dX5_number_63 : decode cX5_number 63 = .ok (.ireturn, 1) := by decide +kernel
theorem dX5_number_64 : decode cX5_number 64 = .ok (.aload_n 0, 1) := by decide +kernel
theorem dX5_number_65 : decode cX5_number 65 = .ok (.getfield 7, 3) := by decide +kernel
theorem dX5_number_68 : decode cX5_number 68 = .ok (.bipush 43, 2) := by decide +kernel
theorem dX5_number_70 : decode cX5_number 70 = .ok (.iload_n 1, 1) := by decide +kernel
theorem dX5_number_71 : decode cX5_number 71 = .ok (.iadd, 1) := by decide +kernel
theorem dX5_number_72 : decode cX5_number 72 = .ok (.iconst 1, 1) := by decide +kernel
theorem dX5_number_73 : decode cX5_number 73 = .ok (.isub, 1) := by decide +kernel
theorem dX5_number_74 : decode cX5_number 74 = .ok (.iaload, 1) := by decide +kernel
theorem dX5_number_75 : decode cX5_number 75 = .ok (.ireturn, 1) := by decide +kernel
theorem dX5_number_76 : decode cX5_number 76 = .ok (.aload_n 0, 1) := by decide +kernel
theorem dX5_number_77 : decode cX5_number 77 = .ok (.invokevirtual 142, 3) := by decide +kernel
theorem dX5_number_80 : decode cX5_number 80 = .ok (.ireturn, 1) := by decide +kernel
theorem dX5_number_81 : decode cX5_number 81 = .ok (.aload_n 0, 1) := by decide +kernel
theorem dX5_number_82 : decode cX5_number 82 = .ok (.invokevirtual 151, 3) := by decide +kernel
theorem dX5_number_85 : decode cX5_number 85 = .ok (.ireturn, 1) := by decide +kernel
theorem dX5_number_86 : decode cX5_number 86 = .ok (.aload_n 0, 1) := by decide +kernel
theorem dX5_number_87 : decode cX5_number 87 = .ok (.invokevirtual 154, 3) := by decide +kernel
theorem dX5_number_90 : decode cX5_number 90 = .ok (.ireturn, 1) := by decide +kernel
theorem dX5_number_91 : decode cX5_number 91 = .ok (.aload_n 0, 1) := by decide +kernel
theorem dX5_number_92 : decode cX5_number 92 = .ok (.getfield 7, 3) := by decide +kernel
theorem dX5_number_95 : decode cX5_number 95 = .ok (.bipush 48, 2) := by decide +kernel
theorem dX5_number_97 : decode cX5_number 97 = .ok (.iaload, 1) := by decide +kernel
theorem dX5_number_98 : decode cX5_number 98 = .ok (.ireturn, 1) := by decide +kernel
theorem dX5_number_99 : decode cX5_number 99 = .ok (.aload_n 0, 1) := by decide +kernel
theorem dX5_number_100 : decode cX5_number 100 = .ok (.getfield 40, 3) := by decide +kernel
theorem dX5_number_103 : decode cX5_number 103 = .ok (.ireturn, 1) := by decide +kernel
set_option maxRecDepth 20000 in
theorem ggX5_count_X5_in : GoodIn wsX5_count wsX5_in := goodIn_r _ [4] (by decide +kernel) (by decide +kernel)
set_option maxRecDepth 20000 in
theorem gX5_count_X5_in : GoodIn wsX5_count (va_wsS RX5 36 yX5_in wsX5_in) := goodIn_app (goodIn_of _ (by decide +kernel)) ggX5_count_X5_in
set_option maxRecDepth 20000 in
theorem ggX5_count_X5_refused : GoodIn wsX5_count wsX5_refused := goodIn_r _ [8, 9, 35, 36, 37, 38, 39, 40, 41, 42, 43, 44, 45, 46, 47] (by decide +kernel) (by decide +kernel)
set_option maxRecDepth 20000 in
theorem gX5_count_X5_refused : GoodIn wsX5_count (wsV RX5 54 RX5 yX5_refused wsX5_refused) := goodIn_app (goodIn_of _ (by decide +kernel)) ggX5_count_X5_refused
set_option maxRecDepth 20000 in
theorem ggX5_count_X5_number : GoodIn wsX5_count wsX5_number := goodIn_r _ [13, 14, 15, 16, 17, 18, 3, 19, 20, 21, 22, 23, 24, 25, 26, 27, 28, 29, 30, 31, 32, 33, 34, 35, 36, 37, 38, 39, 40, 41, 42, 43, 44, 45, 46, 47] (by decide +kernel) (by decide +kernel)
set_option maxRecDepth 20000 in
theorem gX5_count_X5_number : GoodIn wsX5_count (wsV RX5 157 RX5 yX5_number wsX5_number) := goodIn_app (goodIn_of _ (by decide +kernel)) ggX5_count_X5_number
theorem dX5_count_0 : decode cX5_count 0 = .ok (.aload_n 0, 1) := by decide +kernel
theorem dX5_count_1 : decode cX5_count 1 = .ok (.iload_n 1, 1) := by decide +kernel
theorem dX5_count_2 : decode cX5_count 2 = .ok (.iconst 0, 1) := by decide +kernel
theorem dX5_count_3 : decode cX5_count 3 = .ok (.bipush 10, 2) := by decide +kernel
theorem dX5_count_5 : decode cX5_count 5 = .ok (.invokestatic 36, 3) := by decide +kernel
theorem dX5_count_8 : decode cX5_count 8 = .ok (.ifCond .eq 7, 3) := by decide +kernel
theorem dX5_count_11 : decode cX5_count 11 = .ok (.iconst 0, 1) := by decide +kernel
theorem dX5_count_12 : decode cX5_count 12 = .ok (.goto 4, 3) := by decide +kernel
theorem dX5_count_15 : decode cX5_count 15 = .ok (.iconst 1, 1) := by decide +kernel
theorem dX5_count_16 : decode cX5_count 16 = .ok (.invokevirtual 54, 3) := by decide +kernel
theorem dX5_count_19 : decode cX5_count 19 = .ok (.ifCond .eq 7, 3) := by decide +kernel
theorem dX5_count_22 : decode cX5_count 22 = .ok (.iconst 0, 1) := by decide +kernel
theorem dX5_count_23 : decode cX5_count 23 = .ok (.goto 8, 3) := by decide +kernel
theorem dX5_count_26 : decode cX5_count 26 = .ok (.aload_n 0, 1) := by decide +kernel
theorem dX5_count_27 : decode cX5_count 27 = .ok (.iload_n 1, 1) := by decide +kernel
theorem dX5_count_28 : decode cX5_count 28 = .ok (.invokevirtual 157, 3) := by decide +kernel
theorem dX5_count_31 : decode cX5_count 31 = .ok (.ireturn, 1) := by decide +kernel
set_option maxRecDepth 20000 in
theorem ggX5_setting_X5_in : GoodIn wsX5_setting wsX5_in := goodIn_r _ [5] (by decide +kernel) (by decide +kernel)
set_option maxRecDepth 20000 in
theorem gX5_setting_X5_in : GoodIn wsX5_setting (va_wsS RX5 36 yX5_in wsX5_in) := goodIn_app (goodIn_of _ (by decide +kernel)) ggX5_setting_X5_in
set_option maxRecDepth 20000 in
theorem ggX5_setting_X5_refused : GoodIn wsX5_setting wsX5_refused := goodIn_r _ [9, 10, 11, 12, 13, 14, 15, 16, 17, 18, 19, 20, 21, 22, 23] (by decide +kernel) (by decide +kernel)
set_option maxRecDepth 20000 in
theorem gX5_setting_X5_refused : GoodIn wsX5_setting (wsV RX5 54 RX5 yX5_refused wsX5_refused) := goodIn_app (goodIn_of _ (by decide +kernel)) ggX5_setting_X5_refused
theorem dX5_setting_0 : decode cX5_setting 0 = .ok (.aload_n 0, 1) := by decide +kernel
theorem dX5_setting_1 : decode cX5_setting 1 = .ok (.iload_n 1, 1) := by decide +kernel
theorem dX5_setting_2 : decode cX5_setting 2 = .ok (.iconst 0, 1) := by decide +kernel
theorem dX5_setting_3 : decode cX5_setting 3 = .ok (.iconst 2, 1) := by decide +kernel
theorem dX5_setting_4 : decode cX5_setting 4 = .ok (.invokestatic 36, 3) := by decide +kernel
theorem dX5_setting_7 : decode cX5_setting 7 = .ok (.ifCond .eq 7, 3) := by decide +kernel
theorem dX5_setting_10 : decode cX5_setting 10 = .ok (.iconst 0, 1) := by decide +kernel
theorem dX5_setting_11 : decode cX5_setting 11 = .ok (.goto 4, 3) := by decide +kernel
theorem dX5_setting_14 : decode cX5_setting 14 = .ok (.iconst 1, 1) := by decide +kernel
theorem dX5_setting_15 : decode cX5_setting 15 = .ok (.invokevirtual 54, 3) := by decide +kernel
theorem dX5_setting_18 : decode cX5_setting 18 = .ok (.ifCond .eq 7, 3) := by decide +kernel
theorem dX5_setting_21 : decode cX5_setting 21 = .ok (.iconst 0, 1) := by decide +kernel
theorem dX5_setting_22 : decode cX5_setting 22 = .ok (.goto 12, 3) := by decide +kernel
theorem dX5_setting_25 : decode cX5_setting 25 = .ok (.aload_n 0, 1) := by decide +kernel
theorem dX5_setting_26 : decode cX5_setting 26 = .ok (.getfield 7, 3) := by decide +kernel
theorem dX5_setting_29 : decode cX5_setting 29 = .ok (.bipush 40, 2) := by decide +kernel
theorem dX5_setting_31 : decode cX5_setting 31 = .ok (.iload_n 1, 1) := by decide +kernel
theorem dX5_setting_32 : decode cX5_setting 32 = .ok (.iadd, 1) := by decide +kernel
theorem dX5_setting_33 : decode cX5_setting 33 = .ok (.iaload, 1) := by decide +kernel
theorem dX5_setting_34 : decode cX5_setting 34 = .ok (.ireturn, 1) := by decide +kernel
set_option maxRecDepth 20000 in
theorem ggX5_ifGap_X5_isLamp : GoodIn wsX5_ifGap wsX5_isLamp := goodIn_r _ [5, 6, 7, 4, 8] (by decide +kernel) (by decide +kernel)
set_option maxRecDepth 20000 in
theorem gX5_ifGap_X5_isLamp : GoodIn wsX5_ifGap (va_wsS RX5 50 yX5_isLamp wsX5_isLamp) := goodIn_app (goodIn_of _ (by decide +kernel)) ggX5_ifGap_X5_isLamp
set_option maxRecDepth 20000 in
theorem ggX5_ifGap_X5_in : GoodIn wsX5_ifGap wsX5_in := goodIn_r _ [8] (by decide +kernel) (by decide +kernel)
set_option maxRecDepth 20000 in
theorem gX5_ifGap_X5_in : GoodIn wsX5_ifGap (va_wsS RX5 36 yX5_in wsX5_in) := goodIn_app (goodIn_of _ (by decide +kernel)) ggX5_ifGap_X5_in
set_option maxRecDepth 20000 in
theorem ggX5_ifGap_X5_refused : GoodIn wsX5_ifGap wsX5_refused := goodIn_r _ [12, 13, 54, 55, 56, 57, 58, 59, 60, 61, 62, 63, 64, 65, 66] (by decide +kernel) (by decide +kernel)
set_option maxRecDepth 20000 in
theorem gX5_ifGap_X5_refused : GoodIn wsX5_ifGap (wsV RX5 54 RX5 yX5_refused wsX5_refused) := goodIn_app (goodIn_of _ (by decide +kernel)) ggX5_ifGap_X5_refused
set_option maxRecDepth 20000 in
theorem ggX5_ifGap_X5_wordBehind : GoodIn wsX5_ifGap wsX5_wordBehind := goodIn_r _ [17, 18, 19, 20, 21, 4, 22, 23, 24, 25, 26, 27, 28, 29, 30, 31, 32, 33, 34, 1, 35, 36, 37, 38, 39, 40, 41, 42, 43, 44, 45, 46, 47, 48, 49, 50, 51, 52, 53, 54, 55, 56, 57, 58, 59, 60, 61, 62, 63, 64, 65, 66] (by decide +kernel) (by decide +kernel)
set_option maxRecDepth 20000 in
theorem gX5_ifGap_X5_wordBehind : GoodIn wsX5_ifGap (wsV RX5 101 RX5 yX5_wordBehind wsX5_wordBehind) := goodIn_app (goodIn_of _ (by decide +kernel)) ggX5_ifGap_X5_wordBehind
theorem dX5_ifGap_0 : decode cX5_ifGap 0 = .ok (.aload_n 0, 1) := by decide +kernel
theorem dX5_ifGap_1 : decode cX5_ifGap 1 = .ok (.iload_n 1, 1) := by decide +kernel
theorem dX5_ifGap_2 : decode cX5_ifGap 2 = .ok (.invokestatic 50, 3) := by decide +kernel
theorem dX5_ifGap_5 : decode cX5_ifGap 5 = .ok (.ifCond .ne 7, 3) := by decide +kernel
theorem dX5_ifGap_8 : decode cX5_ifGap 8 = .ok (.iconst 1, 1) := by decide +kernel
theorem dX5_ifGap_9 : decode cX5_ifGap 9 = .ok (.goto 17, 3) := by decide +kernel
theorem dX5_ifGap_12 : decode cX5_ifGap 12 = .ok (.iload_n 2, 1) := by decide +kernel
theorem dX5_ifGap_13 : decode cX5_ifGap 13 = .ok (.iconst 0, 1) := by decide +kernel
theorem dX5_ifGap_14 : decode cX5_ifGap 14 = .ok (.iconst 1, 1) := by decide +kernel
theorem dX5_ifGap_15 : decode cX5_ifGap 15 = .ok (.invokestatic 36, 3) := by decide +kernel
theorem dX5_ifGap_18 : decode cX5_ifGap 18 = .ok (.ifCond .eq 7, 3) := by decide +kernel
theorem dX5_ifGap_21 : decode cX5_ifGap 21 = .ok (.iconst 0, 1) := by decide +kernel
theorem dX5_ifGap_22 : decode cX5_ifGap 22 = .ok (.goto 4, 3) := by decide +kernel
theorem dX5_ifGap_25 : decode cX5_ifGap 25 = .ok (.iconst 2, 1) := by decide +kernel
theorem dX5_ifGap_26 : decode cX5_ifGap 26 = .ok (.invokevirtual 54, 3) := by decide +kernel
theorem dX5_ifGap_29 : decode cX5_ifGap 29 = .ok (.ifCond .eq 5, 3) := by decide +kernel
theorem dX5_ifGap_32 : decode cX5_ifGap 32 = .ok (.iconst 0, 1) := by decide +kernel
theorem dX5_ifGap_33 : decode cX5_ifGap 33 = .ok (.ireturn, 1) := by decide +kernel
theorem dX5_ifGap_34 : decode cX5_ifGap 34 = .ok (.aload_n 0, 1) := by decide +kernel
theorem dX5_ifGap_35 : decode cX5_ifGap 35 = .ok (.iconst (-1), 1) := by decide +kernel
theorem dX5_ifGap_36 : decode cX5_ifGap 36 = .ok (.putfield 26, 3) := by decide +kernel
theorem dX5_ifGap_39 : decode cX5_ifGap 39 = .ok (.aload_n 0, 1) := by decide +kernel
theorem dX5_ifGap_40 : decode cX5_ifGap 40 = .ok (.iload_n 1, 1) := by decide +kernel
theorem dX5_ifGap_41 : decode cX5_ifGap 41 = .ok (.invokevirtual 101, 3) := by decide +kernel
theorem dX5_ifGap_44 : decode cX5_ifGap 44 = .ok (.ireturn, 1) := by decide +kernel
set_option maxRecDepth 20000 in
theorem ggX5_wrongOnes_X5_wordBehind : GoodIn wsX5_wrongOnes wsX5_wordBehind := goodIn_r _ [7, 2, 8, 9, 10, 6, 11, 12, 13, 14, 15, 16, 17, 18, 19, 20, 21, 22, 23, 1, 24, 25, 26, 27, 28, 29, 30, 31, 32, 33, 34, 35, 36, 37, 38, 39, 40, 41, 42, 43, 44, 45, 46, 47, 48, 49, 50, 51, 52, 53, 54, 55] (by decide +kernel) (by decide +kernel)
set_option maxRecDepth 20000 in
theorem gX5_wrongOnes_X5_wordBehind : GoodIn wsX5_wrongOnes (wsV RX5 101 RX5 yX5_wordBehind wsX5_wordBehind) := goodIn_app (goodIn_of _ (by decide +kernel)) ggX5_wrongOnes_X5_wordBehind
theorem dX5_wrongOnes_0 : decode cX5_wrongOnes 0 = .ok (.aload_n 0, 1) := by decide +kernel
theorem dX5_wrongOnes_1 : decode cX5_wrongOnes 1 = .ok (.iload_n 1, 1) := by decide +kernel
theorem dX5_wrongOnes_2 : decode cX5_wrongOnes 2 = .ok (.putfield 26, 3) := by decide +kernel
theorem dX5_wrongOnes_5 : decode cX5_wrongOnes 5 = .ok (.iconst 0, 1) := by decide +kernel
theorem dX5_wrongOnes_6 : decode cX5_wrongOnes 6 = .ok (.istore_n 2, 1) := by decide +kernel
theorem dX5_wrongOnes_7 : decode cX5_wrongOnes 7 = .ok (.iconst 0, 1) := by decide +kernel
theorem dX5_wrongOnes_8 : decode cX5_wrongOnes 8 = .ok (.istore_n 3, 1) := by decide +kernel
theorem dX5_wrongOnes_9 : decode cX5_wrongOnes 9 = .ok (.iload_n 3, 1) := by decide +kernel
theorem dX5_wrongOnes_10 : decode cX5_wrongOnes 10 = .ok (.bipush 8, 2) := by decide +kernel
theorem dX5_wrongOnes_12 : decode cX5_wrongOnes 12 = .ok (.if_icmp .ge 47, 3) := by decide +kernel
theorem dX5_wrongOnes_15 : decode cX5_wrongOnes 15 = .ok (.aload_n 0, 1) := by decide +kernel
theorem dX5_wrongOnes_16 : decode cX5_wrongOnes 16 = .ok (.getfield 7, 3) := by decide +kernel
theorem dX5_wrongOnes_19 : decode cX5_wrongOnes 19 = .ok (.iconst 0, 1) := by decide +kernel
theorem dX5_wrongOnes_20 : decode cX5_wrongOnes 20 = .ok (.iload_n 3, 1) := by decide +kernel
theorem dX5_wrongOnes_21 : decode cX5_wrongOnes 21 = .ok (.iadd, 1) := by decide +kernel
theorem dX5_wrongOnes_22 : decode cX5_wrongOnes 22 = .ok (.iaload, 1) := by decide +kernel
theorem dX5_wrongOnes_23 : decode cX5_wrongOnes 23 = .ok (.ifCond .ne 11, 3) := by decide +kernel
theorem dX5_wrongOnes_26 : decode cX5_wrongOnes 26 = .ok (.aload_n 0, 1) := by decide +kernel
theorem dX5_wrongOnes_27 : decode cX5_wrongOnes 27 = .ok (.iload_n 3, 1) := by decide +kernel
theorem dX5_wrongOnes_28 : decode cX5_wrongOnes 28 = .ok (.invokevirtual 101, 3) := by decide +kernel
theorem dX5_wrongOnes_31 : decode cX5_wrongOnes 31 = .ok (.goto 4, 3) := by decide +kernel
theorem dX5_wrongOnes_34 : decode cX5_wrongOnes 34 = .ok (.iconst 0, 1) := by decide +kernel
theorem dX5_wrongOnes_35 : decode cX5_wrongOnes 35 = .ok (.istore 4, 2) := by decide +kernel
theorem dX5_wrongOnes_37 : decode cX5_wrongOnes 37 = .ok (.iload_n 2, 1) := by decide +kernel
theorem dX5_wrongOnes_38 : decode cX5_wrongOnes 38 = .ok (.iload 4, 2) := by decide +kernel
theorem dX5_wrongOnes_40 : decode cX5_wrongOnes 40 = .ok (.iload_n 1, 1) := by decide +kernel
theorem dX5_wrongOnes_41 : decode cX5_wrongOnes 41 = .ok (.if_icmp .ne 7, 3) := by decide +kernel
theorem dX5_wrongOnes_44 : decode cX5_wrongOnes 44 = .ok (.iconst 0, 1) := by decide +kernel
theorem dX5_wrongOnes_45 : decode cX5_wrongOnes 45 = .ok (.goto 6, 3) := by decide +kernel
theorem dX5_wrongOnes_48 : decode cX5_wrongOnes 48 = .ok (.iconst 1, 1) := by decide +kernel
theorem dX5_wrongOnes_49 : decode cX5_wrongOnes 49 = .ok (.iload_n 3, 1) := by decide +kernel
theorem dX5_wrongOnes_50 : decode cX5_wrongOnes 50 = .ok (.ishl, 1) := by decide +kernel
theorem dX5_wrongOnes_51 : decode cX5_wrongOnes 51 = .ok (.ior, 1) := by decide +kernel
theorem dX5_wrongOnes_52 : decode cX5_wrongOnes 52 = .ok (.istore_n 2, 1) := by decide +kernel
theorem dX5_wrongOnes_53 : decode cX5_wrongOnes 53 = .ok (.iinc 3 1, 3) := by decide +kernel
theorem dX5_wrongOnes_56 : decode cX5_wrongOnes 56 = .ok (.goto (-47), 3) := by decide +kernel
theorem dX5_wrongOnes_59 : decode cX5_wrongOnes 59 = .ok (.aload_n 0, 1) := by decide +kernel
theorem dX5_wrongOnes_60 : decode cX5_wrongOnes 60 = .ok (.iconst (-1), 1) := by decide +kernel
theorem dX5_wrongOnes_61 : decode cX5_wrongOnes 61 = .ok (.putfield 26, 3) := by decide +kernel
theorem dX5_wrongOnes_64 : decode cX5_wrongOnes 64 = .ok (.iload_n 2, 1) := by decide +kernel
theorem dX5_wrongOnes_65 : decode cX5_wrongOnes 65 = .ok (.ireturn, 1) := by decide +kernel
set_option maxRecDepth 20000 in
theorem ggX5_wrong_X5_in : GoodIn wsX5_wrong wsX5_in := goodIn_r _ [4] (by decide +kernel) (by decide +kernel)
set_option maxRecDepth 20000 in
theorem gX5_wrong_X5_in : GoodIn wsX5_wrong (va_wsS RX5 36 yX5_in wsX5_in) := goodIn_app (goodIn_of _ (by decide +kernel)) ggX5_wrong_X5_in
set_option maxRecDepth 20000 in
theorem ggX5_wrong_X5_refused : GoodIn wsX5_wrong wsX5_refused := goodIn_r _ [8, 9, 55, 56, 57, 58, 59, 60, 61, 62, 63, 64, 65, 66, 67] (by decide +kernel) (by decide +kernel)
set_option maxRecDepth 20000 in
theorem gX5_wrong_X5_refused : GoodIn wsX5_wrong (wsV RX5 54 RX5 yX5_refused wsX5_refused) := goodIn_app (goodIn_of _ (by decide +kernel)) ggX5_wrong_X5_refused
set_option maxRecDepth 20000 in
theorem ggX5_wrong_X5_wrongOnes : GoodIn wsX5_wrong wsX5_wrongOnes := goodIn_r _ [13, 14, 15, 16, 17, 18, 3, 19, 20, 21, 22, 23, 24, 25, 26, 27, 28, 29, 30, 31, 32, 33, 34, 35, 36, 37, 38, 39, 40, 41, 42, 43, 44, 45, 46, 47, 48, 49, 50, 51, 52, 53, 54, 55, 56, 57, 58, 59, 60, 61, 62, 63, 64, 65, 66, 67] (by decide +kernel) (by decide +kernel)
set_option maxRecDepth 20000 in
theorem gX5_wrong_X5_wrongOnes : GoodIn wsX5_wrong (wsV RX5 160 RX5 yX5_wrongOnes wsX5_wrongOnes) := goodIn_app (goodIn_of _ (by decide +kernel)) ggX5_wrong_X5_wrongOnes
theorem dX5_wrong_0 : decode cX5_wrong 0 = .ok (.aload_n 0, 1) := by decide +kernel
theorem dX5_wrong_1 : decode cX5_wrong 1 = .ok (.iload_n 1, 1) := by decide +kernel
theorem dX5_wrong_2 : decode cX5_wrong 2 = .ok (.iconst 0, 1) := by decide +kernel
theorem dX5_wrong_3 : decode cX5_wrong 3 = .ok (.sipush 4095, 3) := by decide +kernel
theorem dX5_wrong_6 : decode cX5_wrong 6 = .ok (.invokestatic 36, 3) := by decide +kernel
theorem dX5_wrong_9 : decode cX5_wrong 9 = .ok (.ifCond .eq 7, 3) := by decide +kernel
theorem dX5_wrong_12 : decode cX5_wrong 12 = .ok (.iconst 0, 1) := by decide +kernel
theorem dX5_wrong_13 : decode cX5_wrong 13 = .ok (.goto 4, 3) := by decide +kernel
theorem dX5_wrong_16 : decode cX5_wrong 16 = .ok (.iconst 1, 1) := by decide +kernel
theorem dX5_wrong_17 : decode cX5_wrong 17 = .ok (.invokevirtual 54, 3) := by decide +kernel
theorem dX5_wrong_20 : decode cX5_wrong 20 = .ok (.ifCond .eq 7, 3) := by decide +kernel
theorem dX5_wrong_23 : decode cX5_wrong 23 = .ok (.iconst 0, 1) := by decide +kernel
theorem dX5_wrong_24 : decode cX5_wrong 24 = .ok (.goto 8, 3) := by decide +kernel
theorem dX5_wrong_27 : decode cX5_wrong 27 = .ok (.aload_n 0, 1) := by decide +kernel
theorem dX5_wrong_28 : decode cX5_wrong 28 = .ok (.iload_n 1, 1) := by decide +kernel
theorem dX5_wrong_29 : decode cX5_wrong 29 = .ok (.invokevirtual 160, 3) := by decide +kernel
theorem dX5_wrong_32 : decode cX5_wrong 32 = .ok (.ireturn, 1) := by decide +kernel
set_option maxRecDepth 20000 in
theorem ggX5_greatestLoss_X5_wrongOnes : GoodIn wsX5_greatestLoss wsX5_wrongOnes := goodIn_r _ [6, 7, 1, 8, 9, 10, 5, 11, 12, 13, 14, 15, 16, 17, 18, 19, 20, 21, 22, 23, 24, 25, 26, 27, 28, 29, 30, 31, 32, 33, 34, 35, 36, 37, 38, 39, 40, 41, 42, 43, 44, 45, 46, 47, 48, 49, 50, 51, 52, 53, 54, 55, 56, 57, 58, 59] (by decide +kernel) (by decide +kernel)
set_option maxRecDepth 20000 in
theorem gX5_greatestLoss_X5_wrongOnes : GoodIn wsX5_greatestLoss (wsV RX5 160 RX5 yX5_wrongOnes wsX5_wrongOnes) := goodIn_app (goodIn_of _ (by decide +kernel)) ggX5_greatestLoss_X5_wrongOnes
theorem dX5_greatestLoss_0 : decode cX5_greatestLoss 0 = .ok (.aload_n 0, 1) := by decide +kernel
theorem dX5_greatestLoss_1 : decode cX5_greatestLoss 1 = .ok (.getfield 7, 3) := by decide +kernel
theorem dX5_greatestLoss_4 : decode cX5_greatestLoss 4 = .ok (.bipush 8, 2) := by decide +kernel
theorem dX5_greatestLoss_6 : decode cX5_greatestLoss 6 = .ok (.iload_n 1, 1) := by decide +kernel
theorem dX5_greatestLoss_7 : decode cX5_greatestLoss 7 = .ok (.iadd, 1) := by decide +kernel
theorem dX5_greatestLoss_8 : decode cX5_greatestLoss 8 = .ok (.iaload, 1) := by decide +kernel
theorem dX5_greatestLoss_9 : decode cX5_greatestLoss 9 = .ok (.istore_n 2, 1) := by decide +kernel
theorem dX5_greatestLoss_10 : decode cX5_greatestLoss 10 = .ok (.iconst (-1), 1) := by decide +kernel
theorem dX5_greatestLoss_11 : decode cX5_greatestLoss 11 = .ok (.istore_n 3, 1) := by decide +kernel
theorem dX5_greatestLoss_12 : decode cX5_greatestLoss 12 = .ok (.iconst 0, 1) := by decide +kernel
theorem dX5_greatestLoss_13 : decode cX5_greatestLoss 13 = .ok (.istore 4, 2) := by decide +kernel
theorem dX5_greatestLoss_15 : decode cX5_greatestLoss 15 = .ok (.iload 4, 2) := by decide +kernel
theorem dX5_greatestLoss_17 : decode cX5_greatestLoss 17 = .ok (.bipush 7, 2) := by decide +kernel
theorem dX5_greatestLoss_19 : decode cX5_greatestLoss 19 = .ok (.if_icmp .ge 47, 3) := by decide +kernel
theorem dX5_greatestLoss_22 : decode cX5_greatestLoss 22 = .ok (.aload_n 0, 1) := by decide +kernel
theorem dX5_greatestLoss_23 : decode cX5_greatestLoss 23 = .ok (.getfield 7, 3) := by decide +kernel
theorem dX5_greatestLoss_26 : decode cX5_greatestLoss 26 = .ok (.bipush 8, 2) := by decide +kernel
theorem dX5_greatestLoss_28 : decode cX5_greatestLoss 28 = .ok (.iload_n 1, 1) := by decide +kernel
theorem dX5_greatestLoss_29 : decode cX5_greatestLoss 29 = .ok (.iadd, 1) := by decide +kernel
theorem dX5_greatestLoss_30 : decode cX5_greatestLoss 30 = .ok (.iload 4, 2) := by decide +kernel
theorem dX5_greatestLoss_32 : decode cX5_greatestLoss 32 = .ok (.iastore, 1) := by decide +kernel
theorem dX5_greatestLoss_33 : decode cX5_greatestLoss 33 = .ok (.aload_n 0, 1) := by decide +kernel
theorem dX5_greatestLoss_34 : decode cX5_greatestLoss 34 = .ok (.sipush 1365, 3) := by decide +kernel
theorem dX5_greatestLoss_37 : decode cX5_greatestLoss 37 = .ok (.invokevirtual 160, 3) := by decide +kernel
theorem dX5_greatestLoss_40 : decode cX5_greatestLoss 40 = .ok (.ifCond .ne 18, 3) := by decide +kernel
theorem dX5_greatestLoss_43 : decode cX5_greatestLoss 43 = .ok (.aload_n 0, 1) := by decide +kernel
theorem dX5_greatestLoss_44 : decode cX5_greatestLoss 44 = .ok (.sipush 2730, 3) := by decide +kernel
theorem dX5_greatestLoss_47 : decode cX5_greatestLoss 47 = .ok (.invokevirtual 160, 3) := by decide +kernel
theorem dX5_greatestLoss_50 : decode cX5_greatestLoss 50 = .ok (.ifCond .ne 8, 3) := by decide +kernel
theorem dX5_greatestLoss_53 : decode cX5_greatestLoss 53 = .ok (.iload 4, 2) := by decide +kernel
theorem dX5_greatestLoss_55 : decode cX5_greatestLoss 55 = .ok (.goto 4, 3) := by decide +kernel
theorem dX5_greatestLoss_58 : decode cX5_greatestLoss 58 = .ok (.iload_n 3, 1) := by decide +kernel
theorem dX5_greatestLoss_59 : decode cX5_greatestLoss 59 = .ok (.istore_n 3, 1) := by decide +kernel
theorem dX5_greatestLoss_60 : decode cX5_greatestLoss 60 = .ok (.iinc 4 1, 3) := by decide +kernel
theorem dX5_greatestLoss_63 : decode cX5_greatestLoss 63 = .ok (.goto (-48), 3) := by decide +kernel
theorem dX5_greatestLoss_66 : decode cX5_greatestLoss 66 = .ok (.aload_n 0, 1) := by decide +kernel
theorem dX5_greatestLoss_67 : decode cX5_greatestLoss 67 = .ok (.getfield 7, 3) := by decide +kernel
theorem dX5_greatestLoss_70 : decode cX5_greatestLoss 70 = .ok (.bipush 8, 2) := by decide +kernel
theorem dX5_greatestLoss_72 : decode cX5_greatestLoss 72 = .ok (.iload_n 1, 1) := by decide +kernel
theorem dX5_greatestLoss_73 : decode cX5_greatestLoss 73 = .ok (.iadd, 1) := by decide +kernel
theorem dX5_greatestLoss_74 : decode cX5_greatestLoss 74 = .ok (.iload_n 2, 1) := by decide +kernel
theorem dX5_greatestLoss_75 : decode cX5_greatestLoss 75 = .ok (.iastore, 1) := by decide +kernel
theorem dX5_greatestLoss_76 : decode cX5_greatestLoss 76 = .ok (.iload_n 3, 1) := by decide +kernel
theorem dX5_greatestLoss_77 : decode cX5_greatestLoss 77 = .ok (.ireturn, 1) := by decide +kernel
set_option maxRecDepth 20000 in
theorem ggX5_bears_X5_isLamp : GoodIn wsX5_bears wsX5_isLamp := goodIn_r _ [4, 5, 6, 3, 7] (by decide +kernel) (by decide +kernel)
set_option maxRecDepth 20000 in
theorem gX5_bears_X5_isLamp : GoodIn wsX5_bears (va_wsS RX5 50 yX5_isLamp wsX5_isLamp) := goodIn_app (goodIn_of _ (by decide +kernel)) ggX5_bears_X5_isLamp
set_option maxRecDepth 20000 in
theorem ggX5_bears_X5_refused : GoodIn wsX5_bears wsX5_refused := goodIn_r _ [11, 12, 62, 63, 64, 65, 66, 67, 68, 69, 70, 71, 72, 73, 74] (by decide +kernel) (by decide +kernel)
set_option maxRecDepth 20000 in
theorem gX5_bears_X5_refused : GoodIn wsX5_bears (wsV RX5 54 RX5 yX5_refused wsX5_refused) := goodIn_app (goodIn_of _ (by decide +kernel)) ggX5_bears_X5_refused
set_option maxRecDepth 20000 in
theorem ggX5_bears_X5_greatestLoss : GoodIn wsX5_bears wsX5_greatestLoss := goodIn_r _ [16, 17, 18, 19, 20, 3, 21, 22, 23, 24, 25, 26, 27, 28, 29, 30, 31, 32, 33, 34, 35, 36, 37, 38, 39, 40, 41, 42, 43, 44, 45, 46, 47, 48, 49, 50, 51, 52, 53, 54, 55, 56, 57, 58, 59, 60, 61, 62, 63, 64, 65, 66, 67, 68, 69, 70, 71, 72, 73, 74] (by decide +kernel) (by decide +kernel)
set_option maxRecDepth 20000 in
theorem gX5_bears_X5_greatestLoss : GoodIn wsX5_bears (wsV RX5 163 RX5 yX5_greatestLoss wsX5_greatestLoss) := goodIn_app (goodIn_of _ (by decide +kernel)) ggX5_bears_X5_greatestLoss
theorem dX5_bears_0 : decode cX5_bears 0 = .ok (.aload_n 0, 1) := by decide +kernel
theorem dX5_bears_1 : decode cX5_bears 1 = .ok (.iload_n 1, 1) := by decide +kernel
theorem dX5_bears_2 : decode cX5_bears 2 = .ok (.invokestatic 50, 3) := by decide +kernel
theorem dX5_bears_5 : decode cX5_bears 5 = .ok (.ifCond .eq 7, 3) := by decide +kernel
theorem dX5_bears_8 : decode cX5_bears 8 = .ok (.iconst 0, 1) := by decide +kernel
theorem dX5_bears_9 : decode cX5_bears 9 = .ok (.goto 4, 3) := by decide +kernel
theorem dX5_bears_12 : decode cX5_bears 12 = .ok (.iconst 1, 1) := by decide +kernel
theorem dX5_bears_13 : decode cX5_bears 13 = .ok (.invokevirtual 54, 3) := by decide +kernel
theorem dX5_bears_16 : decode cX5_bears 16 = .ok (.ifCond .eq 7, 3) := by decide +kernel
theorem dX5_bears_19 : decode cX5_bears 19 = .ok (.iconst 0, 1) := by decide +kernel
theorem dX5_bears_20 : decode cX5_bears 20 = .ok (.goto 8, 3) := by decide +kernel
theorem dX5_bears_23 : decode cX5_bears 23 = .ok (.aload_n 0, 1) := by decide +kernel
theorem dX5_bears_24 : decode cX5_bears 24 = .ok (.iload_n 1, 1) := by decide +kernel
theorem dX5_bears_25 : decode cX5_bears 25 = .ok (.invokevirtual 163, 3) := by decide +kernel
theorem dX5_bears_28 : decode cX5_bears 28 = .ok (.ireturn, 1) := by decide +kernel
set_option maxRecDepth 20000 in
theorem ggX5_brokenAt_X5_comes : GoodIn wsX5_brokenAt wsX5_comes := goodIn_r _ [7, 8, 9, 10, 6, 11, 2, 12, 13, 14, 15, 16, 17, 18, 19, 20, 21, 22, 23, 24, 25, 26, 27, 28, 29, 30, 31, 32, 33, 34, 35, 36, 37] (by decide +kernel) (by decide +kernel)
set_option maxRecDepth 20000 in
theorem gX5_brokenAt_X5_comes : GoodIn wsX5_brokenAt (wsV RX5 85 RX5 yX5_comes wsX5_comes) := goodIn_app (goodIn_of _ (by decide +kernel)) ggX5_brokenAt_X5_comes
theorem dX5_brokenAt_0 : decode cX5_brokenAt 0 = .ok (.aload_n 0, 1) := by decide +kernel
theorem dX5_brokenAt_1 : decode cX5_brokenAt 1 = .ok (.iconst 0, 1) := by decide +kernel
theorem dX5_brokenAt_2 : decode cX5_brokenAt 2 = .ok (.putfield 33, 3) := by decide +kernel
theorem dX5_brokenAt_5 : decode cX5_brokenAt 5 = .ok (.aload_n 0, 1) := by decide +kernel
theorem dX5_brokenAt_6 : decode cX5_brokenAt 6 = .ok (.iconst 0, 1) := by decide +kernel
theorem dX5_brokenAt_7 : decode cX5_brokenAt 7 = .ok (.putfield 26, 3) := by decide +kernel
theorem dX5_brokenAt_10 : decode cX5_brokenAt 10 = .ok (.iconst (-1), 1) := by decide +kernel
theorem dX5_brokenAt_11 : decode cX5_brokenAt 11 = .ok (.istore_n 1, 1) := by decide +kernel
theorem dX5_brokenAt_12 : decode cX5_brokenAt 12 = .ok (.bipush 7, 2) := by decide +kernel
theorem dX5_brokenAt_14 : decode cX5_brokenAt 14 = .ok (.istore_n 2, 1) := by decide +kernel
theorem dX5_brokenAt_15 : decode cX5_brokenAt 15 = .ok (.iload_n 2, 1) := by decide +kernel
theorem dX5_brokenAt_16 : decode cX5_brokenAt 16 = .ok (.ifCond .lt 23, 3) := by decide +kernel
theorem dX5_brokenAt_19 : decode cX5_brokenAt 19 = .ok (.aload_n 0, 1) := by decide +kernel
theorem dX5_brokenAt_20 : decode cX5_brokenAt 20 = .ok (.iload_n 2, 1) := by decide +kernel
theorem dX5_brokenAt_21 : decode cX5_brokenAt 21 = .ok (.invokevirtual 85, 3) := by decide +kernel
theorem dX5_brokenAt_24 : decode cX5_brokenAt 24 = .ok (.ifCond .ne 7, 3) := by decide +kernel
theorem dX5_brokenAt_27 : decode cX5_brokenAt 27 = .ok (.iload_n 2, 1) := by decide +kernel
theorem dX5_brokenAt_28 : decode cX5_brokenAt 28 = .ok (.goto 4, 3) := by decide +kernel
theorem dX5_brokenAt_31 : decode cX5_brokenAt 31 = .ok (.iload_n 1, 1) := by decide +kernel
theorem dX5_brokenAt_32 : decode cX5_brokenAt 32 = .ok (.istore_n 1, 1) := by decide +kernel
theorem dX5_brokenAt_33 : decode cX5_brokenAt 33 = .ok (.iinc 2 (-1), 3) := by decide +kernel
theorem dX5_brokenAt_36 : decode cX5_brokenAt 36 = .ok (.goto (-21), 3) := by decide +kernel
theorem dX5_brokenAt_39 : decode cX5_brokenAt 39 = .ok (.aload_n 0, 1) := by decide +kernel
theorem dX5_brokenAt_40 : decode cX5_brokenAt 40 = .ok (.iconst (-1), 1) := by decide +kernel
theorem dX5_brokenAt_41 : decode cX5_brokenAt 41 = .ok (.putfield 26, 3) := by decide +kernel
theorem dX5_brokenAt_44 : decode cX5_brokenAt 44 = .ok (.iload_n 1, 1) := by decide +kernel
theorem dX5_brokenAt_45 : decode cX5_brokenAt 45 = .ok (.ireturn, 1) := by decide +kernel
set_option maxRecDepth 20000 in
theorem ggX5_fewestWords_X5_isTaker : GoodIn wsX5_fewestWords wsX5_isTaker := goodIn_r _ [5, 6, 15, 16, 17, 18, 19, 20, 21, 22, 23, 24, 25, 26, 27] (by decide +kernel) (by decide +kernel)
set_option maxRecDepth 20000 in
theorem gX5_fewestWords_X5_isTaker : GoodIn wsX5_fewestWords (wsV RX5 68 RX5 yX5_isTaker wsX5_isTaker) := goodIn_app (goodIn_of _ (by decide +kernel)) ggX5_fewestWords_X5_isTaker
set_option maxRecDepth 20000 in
theorem ggX5_fewestWords_X5_isCut : GoodIn wsX5_fewestWords wsX5_isCut := goodIn_r _ [10, 6, 15, 16, 17, 18, 19, 20, 21, 22, 23, 24, 25, 26, 27] (by decide +kernel) (by decide +kernel)
set_option maxRecDepth 20000 in
theorem gX5_fewestWords_X5_isCut : GoodIn wsX5_fewestWords (wsV RX5 79 RX5 yX5_isCut wsX5_isCut) := goodIn_app (goodIn_of _ (by decide +kernel)) ggX5_fewestWords_X5_isCut
set_option maxRecDepth 20000 in
theorem ggX5_fewestWords_X5_takersAhead : GoodIn wsX5_fewestWords wsX5_takersAhead := goodIn_r _ [14, 1, 2, 3, 4, 5, 6, 15, 16, 17, 18, 19, 20, 21, 22, 23, 24, 25, 26, 27] (by decide +kernel) (by decide +kernel)
set_option maxRecDepth 20000 in
theorem gX5_fewestWords_X5_takersAhead : GoodIn wsX5_fewestWords (wsV RX5 75 RX5 yX5_takersAhead wsX5_takersAhead) := goodIn_app (goodIn_of _ (by decide +kernel)) ggX5_fewestWords_X5_takersAhead
theorem dX5_fewestWords_0 : decode cX5_fewestWords 0 = .ok (.aload_n 0, 1) := by decide +kernel
theorem dX5_fewestWords_1 : decode cX5_fewestWords 1 = .ok (.iload_n 1, 1) := by decide +kernel
theorem dX5_fewestWords_2 : decode cX5_fewestWords 2 = .ok (.invokevirtual 68, 3) := by decide +kernel
theorem dX5_fewestWords_5 : decode cX5_fewestWords 5 = .ok (.ifCond .eq 21, 3) := by decide +kernel
theorem dX5_fewestWords_8 : decode cX5_fewestWords 8 = .ok (.aload_n 0, 1) := by decide +kernel
theorem dX5_fewestWords_9 : decode cX5_fewestWords 9 = .ok (.iload_n 1, 1) := by decide +kernel
theorem dX5_fewestWords_10 : decode cX5_fewestWords 10 = .ok (.invokevirtual 79, 3) := by decide +kernel
theorem dX5_fewestWords_13 : decode cX5_fewestWords 13 = .ok (.ifCond .ne 13, 3) := by decide +kernel
theorem dX5_fewestWords_16 : decode cX5_fewestWords 16 = .ok (.aload_n 0, 1) := by decide +kernel
theorem dX5_fewestWords_17 : decode cX5_fewestWords 17 = .ok (.iload_n 1, 1) := by decide +kernel
theorem dX5_fewestWords_18 : decode cX5_fewestWords 18 = .ok (.invokevirtual 75, 3) := by decide +kernel
theorem dX5_fewestWords_21 : decode cX5_fewestWords 21 = .ok (.iconst 1, 1) := by decide +kernel
theorem dX5_fewestWords_22 : decode cX5_fewestWords 22 = .ok (.iadd, 1) := by decide +kernel
theorem dX5_fewestWords_23 : decode cX5_fewestWords 23 = .ok (.goto 4, 3) := by decide +kernel
theorem dX5_fewestWords_26 : decode cX5_fewestWords 26 = .ok (.iconst (-1), 1) := by decide +kernel
theorem dX5_fewestWords_27 : decode cX5_fewestWords 27 = .ok (.ireturn, 1) := by decide +kernel
set_option maxRecDepth 20000 in
theorem ggX5_wordsTo_X5_isLamp : GoodIn wsX5_wordsTo wsX5_isLamp := goodIn_r _ [4, 5, 6, 3, 7] (by decide +kernel) (by decide +kernel)
set_option maxRecDepth 20000 in
theorem gX5_wordsTo_X5_isLamp : GoodIn wsX5_wordsTo (va_wsS RX5 50 yX5_isLamp wsX5_isLamp) := goodIn_app (goodIn_of _ (by decide +kernel)) ggX5_wordsTo_X5_isLamp
set_option maxRecDepth 20000 in
theorem ggX5_wordsTo_X5_refused : GoodIn wsX5_wordsTo wsX5_refused := goodIn_r _ [11, 12, 30, 31, 32, 33, 34, 35, 36, 37, 38, 39, 40, 41, 42] (by decide +kernel) (by decide +kernel)
set_option maxRecDepth 20000 in
theorem gX5_wordsTo_X5_refused : GoodIn wsX5_wordsTo (wsV RX5 54 RX5 yX5_refused wsX5_refused) := goodIn_app (goodIn_of _ (by decide +kernel)) ggX5_wordsTo_X5_refused
set_option maxRecDepth 20000 in
theorem ggX5_wordsTo_X5_fewestWords : GoodIn wsX5_wordsTo wsX5_fewestWords := goodIn_r _ [16, 17, 18, 19, 3, 20, 21, 22, 23, 24, 25, 26, 27, 28, 29, 30, 31, 32, 33, 34, 35, 36, 37, 38, 39, 40, 41, 42] (by decide +kernel) (by decide +kernel)
set_option maxRecDepth 20000 in
theorem gX5_wordsTo_X5_fewestWords : GoodIn wsX5_wordsTo (wsV RX5 166 RX5 yX5_fewestWords wsX5_fewestWords) := goodIn_app (goodIn_of _ (by decide +kernel)) ggX5_wordsTo_X5_fewestWords
theorem dX5_wordsTo_0 : decode cX5_wordsTo 0 = .ok (.aload_n 0, 1) := by decide +kernel
theorem dX5_wordsTo_1 : decode cX5_wordsTo 1 = .ok (.iload_n 1, 1) := by decide +kernel
theorem dX5_wordsTo_2 : decode cX5_wordsTo 2 = .ok (.invokestatic 50, 3) := by decide +kernel
theorem dX5_wordsTo_5 : decode cX5_wordsTo 5 = .ok (.ifCond .eq 7, 3) := by decide +kernel
theorem dX5_wordsTo_8 : decode cX5_wordsTo 8 = .ok (.iconst 0, 1) := by decide +kernel
theorem dX5_wordsTo_9 : decode cX5_wordsTo 9 = .ok (.goto 4, 3) := by decide +kernel
theorem dX5_wordsTo_12 : decode cX5_wordsTo 12 = .ok (.iconst 1, 1) := by decide +kernel
theorem dX5_wordsTo_13 : decode cX5_wordsTo 13 = .ok (.invokevirtual 54, 3) := by decide +kernel
theorem dX5_wordsTo_16 : decode cX5_wordsTo 16 = .ok (.ifCond .eq 7, 3) := by decide +kernel
theorem dX5_wordsTo_19 : decode cX5_wordsTo 19 = .ok (.iconst 0, 1) := by decide +kernel
theorem dX5_wordsTo_20 : decode cX5_wordsTo 20 = .ok (.goto 8, 3) := by decide +kernel
theorem dX5_wordsTo_23 : decode cX5_wordsTo 23 = .ok (.aload_n 0, 1) := by decide +kernel
theorem dX5_wordsTo_24 : decode cX5_wordsTo 24 = .ok (.iload_n 1, 1) := by decide +kernel
theorem dX5_wordsTo_25 : decode cX5_wordsTo 25 = .ok (.invokevirtual 166, 3) := by decide +kernel
theorem dX5_wordsTo_28 : decode cX5_wordsTo 28 = .ok (.ireturn, 1) := by decide +kernel
set_option maxRecDepth 20000 in
theorem ggX5_brightness_X5_allShown : GoodIn wsX5_brightness wsX5_allShown := goodIn_r _ [7, 8, 9, 10, 6, 11, 12, 13, 14, 15, 16, 17, 18, 19, 20, 21, 22, 23, 24, 25, 26, 27, 28, 29, 30, 31, 32] (by decide +kernel) (by decide +kernel)
set_option maxRecDepth 20000 in
theorem gX5_brightness_X5_allShown : GoodIn wsX5_brightness (wsV RX5 151 RX5 yX5_allShown wsX5_allShown) := goodIn_app (goodIn_of _ (by decide +kernel)) ggX5_brightness_X5_allShown
theorem dX5_brightness_0 : decode cX5_brightness 0 = .ok (.aload_n 0, 1) := by decide +kernel
theorem dX5_brightness_1 : decode cX5_brightness 1 = .ok (.iconst 0, 1) := by decide +kernel
theorem dX5_brightness_2 : decode cX5_brightness 2 = .ok (.putfield 33, 3) := by decide +kernel
theorem dX5_brightness_5 : decode cX5_brightness 5 = .ok (.aload_n 0, 1) := by decide +kernel
theorem dX5_brightness_6 : decode cX5_brightness 6 = .ok (.invokevirtual 151, 3) := by decide +kernel
theorem dX5_brightness_9 : decode cX5_brightness 9 = .ok (.i2d, 1) := by decide +kernel
theorem dX5_brightness_10 : decode cX5_brightness 10 = .ok (.dstore_n 1, 1) := by decide +kernel
theorem dX5_brightness_11 : decode cX5_brightness 11 = .ok (.dload_n 1, 1) := by decide +kernel
theorem dX5_brightness_12 : decode cX5_brightness 12 = .ok (.ldc2_w 169, 3) := by decide +kernel
theorem dX5_brightness_15 : decode cX5_brightness 15 = .ok (.ddiv, 1) := by decide +kernel
theorem dX5_brightness_16 : decode cX5_brightness 16 = .ok (.dreturn, 1) := by decide +kernel
set_option maxRecDepth 20000 in
theorem ggX5_digest_X5_number : GoodIn wsX5_digest wsX5_number := goodIn_r _ [13, 4, 14, 15, 16, 17, 12, 18, 19, 20, 21, 22, 23, 24, 25, 26, 27, 28, 29, 30, 31, 32, 33, 110, 111, 112, 113, 114, 115, 116, 117, 118, 119, 120, 121, 122] (by decide +kernel) (by decide +kernel)
set_option maxRecDepth 20000 in
theorem gX5_digest_X5_number : GoodIn wsX5_digest (wsV RX5 157 RX5 yX5_number wsX5_number) := goodIn_app (goodIn_of _ (by decide +kernel)) ggX5_digest_X5_number
set_option maxRecDepth 20000 in
theorem ggX5_digest_X5_aboutLamp : GoodIn wsX5_digest wsX5_aboutLamp := goodIn_r _ [37, 4, 26, 27, 28, 12, 29, 15, 16, 17, 18, 19, 20, 21, 110, 111, 112, 113, 114, 115, 116, 117, 118, 119, 120, 121, 122] (by decide +kernel) (by decide +kernel)
set_option maxRecDepth 20000 in
theorem gX5_digest_X5_aboutLamp : GoodIn wsX5_digest (wsV RX5 148 RX5 yX5_aboutLamp wsX5_aboutLamp) := goodIn_app (goodIn_of _ (by decide +kernel)) ggX5_digest_X5_aboutLamp
set_option maxRecDepth 20000 in
theorem ggX5_digest_X5_wordBehind : GoodIn wsX5_digest wsX5_wordBehind := goodIn_r _ [41, 4, 42, 43, 44, 12, 45, 46, 47, 48, 49, 50, 51, 52, 53, 54, 55, 56, 57, 5, 58, 59, 60, 61, 62, 63, 64, 65, 66, 67, 68, 69, 70, 71, 72, 73, 74, 75, 76, 110, 111, 112, 113, 114, 115, 116, 117, 118, 119, 120, 121, 122] (by decide +kernel) (by decide +kernel)
set_option maxRecDepth 20000 in
theorem gX5_digest_X5_wordBehind : GoodIn wsX5_digest (wsV RX5 101 RX5 yX5_wordBehind wsX5_wordBehind) := goodIn_app (goodIn_of _ (by decide +kernel)) ggX5_digest_X5_wordBehind
set_option maxRecDepth 20000 in
theorem ggX5_digest_X5_greatestLoss : GoodIn wsX5_digest wsX5_greatestLoss := goodIn_r _ [80, 4, 81, 82, 83, 12, 84, 5, 38, 39, 40, 41, 42, 43, 44, 45, 46, 47, 48, 49, 50, 51, 52, 53, 54, 55, 56, 57, 58, 59, 60, 61, 62, 63, 64, 65, 66, 67, 68, 69, 70, 71, 72, 73, 74, 75, 76, 110, 111, 112, 113, 114, 115, 116, 117, 118, 119, 120, 121, 122] (by decide +kernel) (by decide +kernel)
set_option maxRecDepth 20000 in
theorem gX5_digest_X5_greatestLoss : GoodIn wsX5_digest (wsV RX5 163 RX5 yX5_greatestLoss wsX5_greatestLoss) := goodIn_app (goodIn_of _ (by decide +kernel)) ggX5_digest_X5_greatestLoss
set_option maxRecDepth 20000 in
theorem ggX5_digest_X5_fewestWords : GoodIn wsX5_digest wsX5_fewestWords := goodIn_r _ [88, 46, 47, 48, 12, 49, 4, 62, 63, 64, 65, 58, 59, 60, 61, 110, 111, 112, 113, 114, 115, 116, 117, 118, 119, 120, 121, 122] (by decide +kernel) (by decide +kernel)
set_option maxRecDepth 20000 in
theorem gX5_digest_X5_fewestWords : GoodIn wsX5_digest (wsV RX5 166 RX5 yX5_fewestWords wsX5_fewestWords) := goodIn_app (goodIn_of _ (by decide +kernel)) ggX5_digest_X5_fewestWords
set_option maxRecDepth 20000 in
theorem ggX5_digest_X5_wrongOnes : GoodIn wsX5_digest wsX5_wrongOnes := goodIn_r _ [84, 5, 4, 38, 39, 40, 12, 41, 42, 43, 44, 45, 46, 47, 48, 49, 50, 51, 52, 53, 54, 55, 56, 57, 58, 59, 60, 61, 62, 63, 64, 65, 66, 67, 68, 69, 70, 71, 72, 73, 74, 75, 76, 110, 111, 112, 113, 114, 115, 116, 117, 118, 119, 120, 121, 122] (by decide +kernel) (by decide +kernel)
set_option maxRecDepth 20000 in
theorem gX5_digest_X5_wrongOnes : GoodIn wsX5_digest (wsV RX5 160 RX5 yX5_wrongOnes wsX5_wrongOnes) := goodIn_app (goodIn_of _ (by decide +kernel)) ggX5_digest_X5_wrongOnes
set_option maxRecDepth 20000 in
theorem ggX5_digest_X5_brokenAt : GoodIn wsX5_digest wsX5_brokenAt := goodIn_r _ [92, 1, 5, 50, 51, 52, 12, 53, 54, 55, 56, 57, 4, 58, 59, 60, 61, 46, 47, 48, 49, 62, 63, 64, 65, 110, 111, 112, 113, 114, 115, 116, 117, 118, 119, 120, 121, 122] (by decide +kernel) (by decide +kernel)
set_option maxRecDepth 20000 in
theorem gX5_digest_X5_brokenAt : GoodIn wsX5_digest (wsV RX5 175 RX5 yX5_brokenAt wsX5_brokenAt) := goodIn_app (goodIn_of _ (by decide +kernel)) ggX5_digest_X5_brokenAt
set_option maxRecDepth 20000 in
theorem ggX5_digest_X5_brightness : GoodIn wsX5_digest wsX5_brightness := goodIn_r _ [96, 1, 97, 22, 23, 24, 12, 25, 26, 27, 28, 29, 4, 15, 16, 17, 18, 19, 20, 21, 110, 111, 112, 113, 114, 115, 116, 117, 118, 119, 120, 121, 122] (by decide +kernel) (by decide +kernel)
set_option maxRecDepth 20000 in
theorem gX5_digest_X5_brightness : GoodIn wsX5_digest (wsV RX5 178 RX5 yX5_brightness wsX5_brightness) := goodIn_app (goodIn_of _ (by decide +kernel)) ggX5_digest_X5_brightness
set_option maxRecDepth 20000 in
theorem ggX5_digest_Jxe99ae_doubleToLongBits_ccdee : GoodIn wsX5_digest wsJxe99ae_doubleToLongBits_ccdee := goodIn_r _ [101, 102, 103, 104, 105, 106, 107, 108, 100, 109] (by decide +kernel) (by decide +kernel)
set_option maxRecDepth 20000 in
theorem gX5_digest_Jxe99ae_doubleToLongBits_ccdee : GoodIn wsX5_digest (va_wsS RX5 182 yJxe99ae_doubleToLongBits_ccdee wsJxe99ae_doubleToLongBits_ccdee) := goodIn_app (goodIn_of _ (by decide +kernel)) ggX5_digest_Jxe99ae_doubleToLongBits_ccdee
theorem dX5_digest_0 : decode cX5_digest 0 = .ok (.aload_n 0, 1) := by decide +kernel
theorem dX5_digest_1 : decode cX5_digest 1 = .ok (.iconst 0, 1) := by decide +kernel
theorem dX5_digest_2 : decode cX5_digest 2 = .ok (.putfield 33, 3) := by decide +kernel
theorem dX5_digest_5 : decode cX5_digest 5 = .ok (.ldc2_w 171, 3) := by decide +kernel
theorem dX5_digest_8 : decode cX5_digest 8 = .ok (.lstore_n 1, 1) := by decide +kernel
theorem dX5_digest_9 : decode cX5_digest 9 = .ok (.iconst 0, 1) := by decide +kernel
theorem dX5_digest_10 : decode cX5_digest 10 = .ok (.istore_n 3, 1) := by decide +kernel
theorem dX5_digest_11 : decode cX5_digest 11 = .ok (.iload_n 3, 1) := by decide +kernel
theorem dX5_digest_12 : decode cX5_digest 12 = .ok (.bipush 11, 2) := by decide +kernel
theorem dX5_digest_14 : decode cX5_digest 14 = .ok (.if_icmp .ge 22, 3) := by decide +kernel
theorem dX5_digest_17 : decode cX5_digest 17 = .ok (.ldc2_w 173, 3) := by decide +kernel
theorem dX5_digest_20 : decode cX5_digest 20 = .ok (.lload_n 1, 1) := by decide +kernel
theorem dX5_digest_21 : decode cX5_digest 21 = .ok (.lmul, 1) := by decide +kernel
theorem dX5_digest_22 : decode cX5_digest 22 = .ok (.aload_n 0, 1) := by decide +kernel
theorem dX5_digest_23 : decode cX5_digest 23 = .ok (.iload_n 3, 1) := by decide +kernel
theorem dX5_digest_24 : decode cX5_digest 24 = .ok (.invokevirtual 157, 3) := by decide +kernel
theorem dX5_digest_27 : decode cX5_digest 27 = .ok (.i2l, 1) := by decide +kernel
theorem dX5_digest_28 : decode cX5_digest 28 = .ok (.ladd, 1) := by decide +kernel
theorem dX5_digest_29 : decode cX5_digest 29 = .ok (.lstore_n 1, 1) := by decide +kernel
theorem dX5_digest_30 : decode cX5_digest 30 = .ok (.iinc 3 1, 3) := by decide +kernel
theorem dX5_digest_33 : decode cX5_digest 33 = .ok (.goto (-22), 3) := by decide +kernel
theorem dX5_digest_36 : decode cX5_digest 36 = .ok (.iconst 0, 1) := by decide +kernel
theorem dX5_digest_37 : decode cX5_digest 37 = .ok (.istore_n 3, 1) := by decide +kernel
theorem dX5_digest_38 : decode cX5_digest 38 = .ok (.iload_n 3, 1) := by decide +kernel
theorem dX5_digest_39 : decode cX5_digest 39 = .ok (.iconst 3, 1) := by decide +kernel
theorem dX5_digest_40 : decode cX5_digest 40 = .ok (.if_icmp .ge 26, 3) := by decide +kernel
theorem dX5_digest_43 : decode cX5_digest 43 = .ok (.ldc2_w 173, 3) := by decide +kernel
theorem dX5_digest_46 : decode cX5_digest 46 = .ok (.lload_n 1, 1) := by decide +kernel
theorem dX5_digest_47 : decode cX5_digest 47 = .ok (.lmul, 1) := by decide +kernel
theorem dX5_digest_48 : decode cX5_digest 48 = .ok (.aload_n 0, 1) := by decide +kernel
theorem dX5_digest_49 : decode cX5_digest 49 = .ok (.getfield 7, 3) := by decide +kernel
theorem dX5_digest_52 : decode cX5_digest 52 = .ok (.bipush 40, 2) := by decide +kernel
theorem dX5_digest_54 : decode cX5_digest 54 = .ok (.iload_n 3, 1) := by decide +kernel
theorem dX5_digest_55 : decode cX5_digest 55 = .ok (.iadd, 1) := by decide +kernel
theorem dX5_digest_56 : decode cX5_digest 56 = .ok (.iaload, 1) := by decide +kernel
theorem dX5_digest_57 : decode cX5_digest 57 = .ok (.i2l, 1) := by decide +kernel
theorem dX5_digest_58 : decode cX5_digest 58 = .ok (.ladd, 1) := by decide +kernel
theorem dX5_digest_59 : decode cX5_digest 59 = .ok (.lstore_n 1, 1) := by decide +kernel
theorem dX5_digest_60 : decode cX5_digest 60 = .ok (.iinc 3 1, 3) := by decide +kernel
theorem dX5_digest_63 : decode cX5_digest 63 = .ok (.goto (-25), 3) := by decide +kernel
theorem dX5_digest_66 : decode cX5_digest 66 = .ok (.aload_n 0, 1) := by decide +kernel
theorem dX5_digest_67 : decode cX5_digest 67 = .ok (.iconst (-1), 1) := by decide +kernel
theorem dX5_digest_68 : decode cX5_digest 68 = .ok (.putfield 26, 3) := by decide +kernel
theorem dX5_digest_71 : decode cX5_digest 71 = .ok (.iconst 0, 1) := by decide +kernel
theorem dX5_digest_72 : decode cX5_digest 72 = .ok (.istore_n 3, 1) := by decide +kernel
theorem dX5_digest_73 : decode cX5_digest 73 = .ok (.iload_n 3, 1) := by decide +kernel
theorem dX5_digest_74 : decode cX5_digest 74 = .ok (.bipush 8, 2) := by decide +kernel
theorem dX5_digest_76 : decode cX5_digest 76 = .ok (.if_icmp .ge 92, 3) := by decide +kernel
theorem dX5_digest_79 : decode cX5_digest 79 = .ok (.iconst 0, 1) := by decide +kernel
theorem dX5_digest_80 : decode cX5_digest 80 = .ok (.istore 4, 2) := by decide +kernel
theorem dX5_digest_82 : decode cX5_digest 82 = .ok (.iload 4, 2) := by decide +kernel
theorem dX5_digest_84 : decode cX5_digest 84 = .ok (.bipush 8, 2) := by decide +kernel
theorem dX5_digest_86 : decode cX5_digest 86 = .ok (.if_icmp .ge 24, 3) := by decide +kernel
theorem dX5_digest_89 : decode cX5_digest 89 = .ok (.ldc2_w 173, 3) := by decide +kernel
theorem dX5_digest_92 : decode cX5_digest 92 = .ok (.lload_n 1, 1) := by decide +kernel
theorem dX5_digest_93 : decode cX5_digest 93 = .ok (.lmul, 1) := by decide +kernel
theorem dX5_digest_94 : decode cX5_digest 94 = .ok (.aload_n 0, 1) := by decide +kernel
theorem dX5_digest_95 : decode cX5_digest 95 = .ok (.iload_n 3, 1) := by decide +kernel
theorem dX5_digest_96 : decode cX5_digest 96 = .ok (.iload 4, 2) := by decide +kernel
theorem dX5_digest_98 : decode cX5_digest 98 = .ok (.invokevirtual 148, 3) := by decide +kernel
theorem dX5_digest_101 : decode cX5_digest 101 = .ok (.i2l, 1) := by decide +kernel
theorem dX5_digest_102 : decode cX5_digest 102 = .ok (.ladd, 1) := by decide +kernel
theorem dX5_digest_103 : decode cX5_digest 103 = .ok (.lstore_n 1, 1) := by decide +kernel
theorem dX5_digest_104 : decode cX5_digest 104 = .ok (.iinc 4 1, 3) := by decide +kernel
theorem dX5_digest_107 : decode cX5_digest 107 = .ok (.goto (-25), 3) := by decide +kernel
theorem dX5_digest_110 : decode cX5_digest 110 = .ok (.ldc2_w 173, 3) := by decide +kernel
theorem dX5_digest_113 : decode cX5_digest 113 = .ok (.lload_n 1, 1) := by decide +kernel
theorem dX5_digest_114 : decode cX5_digest 114 = .ok (.lmul, 1) := by decide +kernel
theorem dX5_digest_115 : decode cX5_digest 115 = .ok (.aload_n 0, 1) := by decide +kernel
theorem dX5_digest_116 : decode cX5_digest 116 = .ok (.iload_n 3, 1) := by decide +kernel
theorem dX5_digest_117 : decode cX5_digest 117 = .ok (.invokevirtual 101, 3) := by decide +kernel
theorem dX5_digest_120 : decode cX5_digest 120 = .ok (.i2l, 1) := by decide +kernel
theorem dX5_digest_121 : decode cX5_digest 121 = .ok (.ladd, 1) := by decide +kernel
theorem dX5_digest_122 : decode cX5_digest 122 = .ok (.lstore_n 1, 1) := by decide +kernel
theorem dX5_digest_123 : decode cX5_digest 123 = .ok (.ldc2_w 173, 3) := by decide +kernel
theorem dX5_digest_126 : decode cX5_digest 126 = .ok (.lload_n 1, 1) := by decide +kernel
theorem dX5_digest_127 : decode cX5_digest 127 = .ok (.lmul, 1) := by decide +kernel
theorem dX5_digest_128 : decode cX5_digest 128 = .ok (.aload_n 0, 1) := by decide +kernel
theorem dX5_digest_129 : decode cX5_digest 129 = .ok (.iload_n 3, 1) := by decide +kernel
theorem dX5_digest_130 : decode cX5_digest 130 = .ok (.invokevirtual 101, 3) := by decide +kernel
theorem dX5_digest_133 : decode cX5_digest 133 = .ok (.i2l, 1) := by decide +kernel
theorem dX5_digest_134 : decode cX5_digest 134 = .ok (.ladd, 1) := by decide +kernel
theorem dX5_digest_135 : decode cX5_digest 135 = .ok (.lstore_n 1, 1) := by decide +kernel
theorem dX5_digest_136 : decode cX5_digest 136 = .ok (.ldc2_w 173, 3) := by decide +kernel
theorem dX5_digest_139 : decode cX5_digest 139 = .ok (.lload_n 1, 1) := by decide +kernel
theorem dX5_digest_140 : decode cX5_digest 140 = .ok (.lmul, 1) := by decide +kernel
theorem dX5_digest_141 : decode cX5_digest 141 = .ok (.aload_n 0, 1) := by decide +kernel
theorem dX5_digest_142 : decode cX5_digest 142 = .ok (.iload_n 3, 1) := by decide +kernel
theorem dX5_digest_143 : decode cX5_digest 143 = .ok (.invokevirtual 163, 3) := by decide +kernel
theorem dX5_digest_146 : decode cX5_digest 146 = .ok (.i2l, 1) := by decide +kernel
theorem dX5_digest_147 : decode cX5_digest 147 = .ok (.ladd, 1) := by decide +kernel
theorem dX5_digest_148 : decode cX5_digest 148 = .ok (.lstore_n 1, 1) := by decide +kernel
theorem dX5_digest_149 : decode cX5_digest 149 = .ok (.ldc2_w 173, 3) := by decide +kernel
theorem dX5_digest_152 : decode cX5_digest 152 = .ok (.lload_n 1, 1) := by decide +kernel
theorem dX5_digest_153 : decode cX5_digest 153 = .ok (.lmul, 1) := by decide +kernel
theorem dX5_digest_154 : decode cX5_digest 154 = .ok (.aload_n 0, 1) := by decide +kernel
theorem dX5_digest_155 : decode cX5_digest 155 = .ok (.iload_n 3, 1) := by decide +kernel
theorem dX5_digest_156 : decode cX5_digest 156 = .ok (.invokevirtual 166, 3) := by decide +kernel
theorem dX5_digest_159 : decode cX5_digest 159 = .ok (.i2l, 1) := by decide +kernel
theorem dX5_digest_160 : decode cX5_digest 160 = .ok (.ladd, 1) := by decide +kernel
theorem dX5_digest_161 : decode cX5_digest 161 = .ok (.lstore_n 1, 1) := by decide +kernel
theorem dX5_digest_162 : decode cX5_digest 162 = .ok (.iinc 3 1, 3) := by decide +kernel
theorem dX5_digest_165 : decode cX5_digest 165 = .ok (.goto (-92), 3) := by decide +kernel
theorem dX5_digest_168 : decode cX5_digest 168 = .ok (.iconst 0, 1) := by decide +kernel
theorem dX5_digest_169 : decode cX5_digest 169 = .ok (.istore_n 3, 1) := by decide +kernel
theorem dX5_digest_170 : decode cX5_digest 170 = .ok (.iload_n 3, 1) := by decide +kernel
theorem dX5_digest_171 : decode cX5_digest 171 = .ok (.aload_n 0, 1) := by decide +kernel
theorem dX5_digest_172 : decode cX5_digest 172 = .ok (.getfield 7, 3) := by decide +kernel
theorem dX5_digest_175 : decode cX5_digest 175 = .ok (.bipush 49, 2) := by decide +kernel
theorem dX5_digest_177 : decode cX5_digest 177 = .ok (.iaload, 1) := by decide +kernel
theorem dX5_digest_178 : decode cX5_digest 178 = .ok (.if_icmp .ge 26, 3) := by decide +kernel
theorem dX5_digest_181 : decode cX5_digest 181 = .ok (.ldc2_w 173, 3) := by decide +kernel
theorem dX5_digest_184 : decode cX5_digest 184 = .ok (.lload_n 1, 1) := by decide +kernel
theorem dX5_digest_185 : decode cX5_digest 185 = .ok (.lmul, 1) := by decide +kernel
theorem dX5_digest_186 : decode cX5_digest 186 = .ok (.aload_n 0, 1) := by decide +kernel
theorem dX5_digest_187 : decode cX5_digest 187 = .ok (.getfield 7, 3) := by decide +kernel
theorem dX5_digest_190 : decode cX5_digest 190 = .ok (.bipush 50, 2) := by decide +kernel
theorem dX5_digest_192 : decode cX5_digest 192 = .ok (.iload_n 3, 1) := by decide +kernel
theorem dX5_digest_193 : decode cX5_digest 193 = .ok (.iadd, 1) := by decide +kernel
theorem dX5_digest_194 : decode cX5_digest 194 = .ok (.iaload, 1) := by decide +kernel
theorem dX5_digest_195 : decode cX5_digest 195 = .ok (.i2l, 1) := by decide +kernel
theorem dX5_digest_196 : decode cX5_digest 196 = .ok (.ladd, 1) := by decide +kernel
theorem dX5_digest_197 : decode cX5_digest 197 = .ok (.lstore_n 1, 1) := by decide +kernel
theorem dX5_digest_198 : decode cX5_digest 198 = .ok (.iinc 3 1, 3) := by decide +kernel
theorem dX5_digest_201 : decode cX5_digest 201 = .ok (.goto (-31), 3) := by decide +kernel
theorem dX5_digest_204 : decode cX5_digest 204 = .ok (.ldc2_w 173, 3) := by decide +kernel
theorem dX5_digest_207 : decode cX5_digest 207 = .ok (.lload_n 1, 1) := by decide +kernel
theorem dX5_digest_208 : decode cX5_digest 208 = .ok (.lmul, 1) := by decide +kernel
theorem dX5_digest_209 : decode cX5_digest 209 = .ok (.aload_n 0, 1) := by decide +kernel
theorem dX5_digest_210 : decode cX5_digest 210 = .ok (.sipush 1365, 3) := by decide +kernel
theorem dX5_digest_213 : decode cX5_digest 213 = .ok (.invokevirtual 160, 3) := by decide +kernel
theorem dX5_digest_216 : decode cX5_digest 216 = .ok (.i2l, 1) := by decide +kernel
theorem dX5_digest_217 : decode cX5_digest 217 = .ok (.ladd, 1) := by decide +kernel
theorem dX5_digest_218 : decode cX5_digest 218 = .ok (.lstore_n 1, 1) := by decide +kernel
theorem dX5_digest_219 : decode cX5_digest 219 = .ok (.ldc2_w 173, 3) := by decide +kernel
theorem dX5_digest_222 : decode cX5_digest 222 = .ok (.lload_n 1, 1) := by decide +kernel
theorem dX5_digest_223 : decode cX5_digest 223 = .ok (.lmul, 1) := by decide +kernel
theorem dX5_digest_224 : decode cX5_digest 224 = .ok (.aload_n 0, 1) := by decide +kernel
theorem dX5_digest_225 : decode cX5_digest 225 = .ok (.sipush 4095, 3) := by decide +kernel
theorem dX5_digest_228 : decode cX5_digest 228 = .ok (.invokevirtual 160, 3) := by decide +kernel
theorem dX5_digest_231 : decode cX5_digest 231 = .ok (.i2l, 1) := by decide +kernel
theorem dX5_digest_232 : decode cX5_digest 232 = .ok (.ladd, 1) := by decide +kernel
theorem dX5_digest_233 : decode cX5_digest 233 = .ok (.lstore_n 1, 1) := by decide +kernel
theorem dX5_digest_234 : decode cX5_digest 234 = .ok (.ldc2_w 173, 3) := by decide +kernel
theorem dX5_digest_237 : decode cX5_digest 237 = .ok (.lload_n 1, 1) := by decide +kernel
theorem dX5_digest_238 : decode cX5_digest 238 = .ok (.lmul, 1) := by decide +kernel
theorem dX5_digest_239 : decode cX5_digest 239 = .ok (.aload_n 0, 1) := by decide +kernel
theorem dX5_digest_240 : decode cX5_digest 240 = .ok (.invokevirtual 175, 3) := by decide +kernel
theorem dX5_digest_243 : decode cX5_digest 243 = .ok (.i2l, 1) := by decide +kernel
theorem dX5_digest_244 : decode cX5_digest 244 = .ok (.ladd, 1) := by decide +kernel
theorem dX5_digest_245 : decode cX5_digest 245 = .ok (.lstore_n 1, 1) := by decide +kernel
theorem dX5_digest_246 : decode cX5_digest 246 = .ok (.ldc2_w 173, 3) := by decide +kernel
theorem dX5_digest_249 : decode cX5_digest 249 = .ok (.lload_n 1, 1) := by decide +kernel
theorem dX5_digest_250 : decode cX5_digest 250 = .ok (.lmul, 1) := by decide +kernel
theorem dX5_digest_251 : decode cX5_digest 251 = .ok (.aload_n 0, 1) := by decide +kernel
theorem dX5_digest_252 : decode cX5_digest 252 = .ok (.invokevirtual 178, 3) := by decide +kernel
theorem dX5_digest_255 : decode cX5_digest 255 = .ok (.invokestatic 182, 3) := by decide +kernel
theorem dX5_digest_258 : decode cX5_digest 258 = .ok (.ladd, 1) := by decide +kernel
theorem dX5_digest_259 : decode cX5_digest 259 = .ok (.lstore_n 1, 1) := by decide +kernel
theorem dX5_digest_260 : decode cX5_digest 260 = .ok (.iconst 0, 1) := by decide +kernel
theorem dX5_digest_261 : decode cX5_digest 261 = .ok (.istore_n 3, 1) := by decide +kernel
theorem dX5_digest_262 : decode cX5_digest 262 = .ok (.iload_n 3, 1) := by decide +kernel
theorem dX5_digest_263 : decode cX5_digest 263 = .ok (.iconst 2, 1) := by decide +kernel
theorem dX5_digest_264 : decode cX5_digest 264 = .ok (.if_icmp .ge 30, 3) := by decide +kernel
theorem dX5_digest_267 : decode cX5_digest 267 = .ok (.ldc2_w 173, 3) := by decide +kernel
theorem dX5_digest_270 : decode cX5_digest 270 = .ok (.lload_n 1, 1) := by decide +kernel
theorem dX5_digest_271 : decode cX5_digest 271 = .ok (.lmul, 1) := by decide +kernel
theorem dX5_digest_272 : decode cX5_digest 272 = .ok (.aload_n 0, 1) := by decide +kernel
theorem dX5_digest_273 : decode cX5_digest 273 = .ok (.getfield 19, 3) := by decide +kernel
theorem dX5_digest_276 : decode cX5_digest 276 = .ok (.iload_n 3, 1) := by decide +kernel
theorem dX5_digest_277 : decode cX5_digest 277 = .ok (.baload, 1) := by decide +kernel
theorem dX5_digest_278 : decode cX5_digest 278 = .ok (.ifCond .eq 7, 3) := by decide +kernel
theorem dX5_digest_281 : decode cX5_digest 281 = .ok (.lconst 1, 1) := by decide +kernel
theorem dX5_digest_282 : decode cX5_digest 282 = .ok (.goto 4, 3) := by decide +kernel
theorem dX5_digest_285 : decode cX5_digest 285 = .ok (.lconst 0, 1) := by decide +kernel
theorem dX5_digest_286 : decode cX5_digest 286 = .ok (.ladd, 1) := by decide +kernel
theorem dX5_digest_287 : decode cX5_digest 287 = .ok (.lstore_n 1, 1) := by decide +kernel
theorem dX5_digest_288 : decode cX5_digest 288 = .ok (.iinc 3 1, 3) := by decide +kernel
theorem dX5_digest_291 : decode cX5_digest 291 = .ok (.goto (-29), 3) := by decide +kernel
theorem dX5_digest_294 : decode cX5_digest 294 = .ok (.ldc2_w 173, 3) := by decide +kernel
theorem dX5_digest_297 : decode cX5_digest 297 = .ok (.lload_n 1, 1) := by decide +kernel
theorem dX5_digest_298 : decode cX5_digest 298 = .ok (.lmul, 1) := by decide +kernel
theorem dX5_digest_299 : decode cX5_digest 299 = .ok (.aload_n 0, 1) := by decide +kernel
theorem dX5_digest_300 : decode cX5_digest 300 = .ok (.getfield 113, 3) := by decide +kernel
theorem dX5_digest_303 : decode cX5_digest 303 = .ok (.i2l, 1) := by decide +kernel
theorem dX5_digest_304 : decode cX5_digest 304 = .ok (.ladd, 1) := by decide +kernel
theorem dX5_digest_305 : decode cX5_digest 305 = .ok (.lstore_n 1, 1) := by decide +kernel
theorem dX5_digest_306 : decode cX5_digest 306 = .ok (.iconst 0, 1) := by decide +kernel
theorem dX5_digest_307 : decode cX5_digest 307 = .ok (.istore_n 3, 1) := by decide +kernel
theorem dX5_digest_308 : decode cX5_digest 308 = .ok (.iload_n 3, 1) := by decide +kernel
theorem dX5_digest_309 : decode cX5_digest 309 = .ok (.aload_n 0, 1) := by decide +kernel
theorem dX5_digest_310 : decode cX5_digest 310 = .ok (.getfield 113, 3) := by decide +kernel
theorem dX5_digest_313 : decode cX5_digest 313 = .ok (.if_icmp .ge 23, 3) := by decide +kernel
theorem dX5_digest_316 : decode cX5_digest 316 = .ok (.ldc2_w 173, 3) := by decide +kernel
theorem dX5_digest_319 : decode cX5_digest 319 = .ok (.lload_n 1, 1) := by decide +kernel
theorem dX5_digest_320 : decode cX5_digest 320 = .ok (.lmul, 1) := by decide +kernel
theorem dX5_digest_321 : decode cX5_digest 321 = .ok (.aload_n 0, 1) := by decide +kernel
theorem dX5_digest_322 : decode cX5_digest 322 = .ok (.getfield 23, 3) := by decide +kernel
theorem dX5_digest_325 : decode cX5_digest 325 = .ok (.iload_n 3, 1) := by decide +kernel
theorem dX5_digest_326 : decode cX5_digest 326 = .ok (.iaload, 1) := by decide +kernel
theorem dX5_digest_327 : decode cX5_digest 327 = .ok (.i2l, 1) := by decide +kernel
theorem dX5_digest_328 : decode cX5_digest 328 = .ok (.ladd, 1) := by decide +kernel
theorem dX5_digest_329 : decode cX5_digest 329 = .ok (.lstore_n 1, 1) := by decide +kernel
theorem dX5_digest_330 : decode cX5_digest 330 = .ok (.iinc 3 1, 3) := by decide +kernel
theorem dX5_digest_333 : decode cX5_digest 333 = .ok (.goto (-25), 3) := by decide +kernel
theorem dX5_digest_336 : decode cX5_digest 336 = .ok (.lload_n 1, 1) := by decide +kernel
theorem dX5_digest_337 : decode cX5_digest 337 = .ok (.lreturn, 1) := by decide +kernel
