set_option maxRecDepth 20000 in
theorem ggX4_init_X2_init : GoodIn wsX4_init wsX2_init := goodIn_r _ [22, 23, 2, 3, 24, 25, 26, 27, 28, 29, 30, 31, 48, 49, 50, 51, 52, 53, 54, 55, 56, 57, 58, 59, 60] (by decide +kernel) (by decide +kernel)
set_option maxRecDepth 20000 in
theorem gX4_init_X2_init_n9 : GoodIn wsX4_init (wsX2_init) := ggX4_init_X2_init
set_option maxRecDepth 20000 in
theorem ggX4_init_X1_init : GoodIn wsX4_init wsX1_init := goodIn_r _ [33, 34, 2, 3, 24, 35, 36, 37, 66, 67, 68, 69, 70, 71] (by decide +kernel) (by decide +kernel)
set_option maxRecDepth 20000 in
theorem gX4_init_X1_init_n18 : GoodIn wsX4_init (wsX1_init) := ggX4_init_X1_init
set_option maxRecDepth 20000 in
theorem ggX4_init_X3_init : GoodIn wsX4_init wsX3_init := goodIn_r _ [39, 40, 2, 3, 41, 42, 72, 73] (by decide +kernel) (by decide +kernel)
set_option maxRecDepth 20000 in
theorem gX4_init_X3_init_n25 : GoodIn wsX4_init (wsX3_init) := ggX4_init_X3_init
set_option maxRecDepth 20000 in
theorem ggX4_init_X0_init : GoodIn wsX4_init wsX0_init := goodIn_r _ [44, 45, 2, 3, 46, 47, 74, 75] (by decide +kernel) (by decide +kernel)
set_option maxRecDepth 20000 in
theorem gX4_init_X0_init_n32 : GoodIn wsX4_init (wsX0_init) := ggX4_init_X0_init
theorem dX4_init_0 : decode cX4_init 0 = .ok (.aload_n 0, 1) := by decide +kernel
theorem dX4_init_1 : decode cX4_init 1 = .ok (.invokespecial 1, 3) := by decide +kernel
theorem dX4_init_4 : decode cX4_init 4 = .ok (.aload_n 0, 1) := by decide +kernel
theorem dX4_init_5 : decode cX4_init 5 = .ok (.new 7, 3) := by decide +kernel
theorem dX4_init_8 : decode cX4_init 8 = .ok (.dup, 1) := by decide +kernel
theorem dX4_init_9 : decode cX4_init 9 = .ok (.invokespecial 9, 3) := by decide +kernel
theorem dX4_init_12 : decode cX4_init 12 = .ok (.putfield 10, 3) := by decide +kernel
theorem dX4_init_15 : decode cX4_init 15 = .ok (.aload_n 0, 1) := by decide +kernel
theorem dX4_init_16 : decode cX4_init 16 = .ok (.new 16, 3) := by decide +kernel
theorem dX4_init_19 : decode cX4_init 19 = .ok (.dup, 1) := by decide +kernel
theorem dX4_init_20 : decode cX4_init 20 = .ok (.invokespecial 18, 3) := by decide +kernel
theorem dX4_init_23 : decode cX4_init 23 = .ok (.putfield 19, 3) := by decide +kernel
theorem dX4_init_26 : decode cX4_init 26 = .ok (.aload_n 0, 1) := by decide +kernel
theorem dX4_init_27 : decode cX4_init 27 = .ok (.new 23, 3) := by decide +kernel
theorem dX4_init_30 : decode cX4_init 30 = .ok (.dup, 1) := by decide +kernel
theorem dX4_init_31 : decode cX4_init 31 = .ok (.invokespecial 25, 3) := by decide +kernel
theorem dX4_init_34 : decode cX4_init 34 = .ok (.putfield 26, 3) := by decide +kernel
theorem dX4_init_37 : decode cX4_init 37 = .ok (.aload_n 0, 1) := by decide +kernel
theorem dX4_init_38 : decode cX4_init 38 = .ok (.new 30, 3) := by decide +kernel
theorem dX4_init_41 : decode cX4_init 41 = .ok (.dup, 1) := by decide +kernel
theorem dX4_init_42 : decode cX4_init 42 = .ok (.invokespecial 32, 3) := by decide +kernel
theorem dX4_init_45 : decode cX4_init 45 = .ok (.putfield 33, 3) := by decide +kernel
theorem dX4_init_48 : decode cX4_init 48 = .ok (.aload_n 0, 1) := by decide +kernel
theorem dX4_init_49 : decode cX4_init 49 = .ok (.iconst 2, 1) := by decide +kernel
theorem dX4_init_50 : decode cX4_init 50 = .ok (.anewarray 7, 3) := by decide +kernel
theorem dX4_init_53 : decode cX4_init 53 = .ok (.putfield 37, 3) := by decide +kernel
theorem dX4_init_56 : decode cX4_init 56 = .ok (.return_, 1) := by decide +kernel
set_option maxRecDepth 20000 in
theorem ggX4_mode_X4_isLamp : GoodIn wsX4_mode wsX4_isLamp := goodIn_r _ [11] (by decide +kernel) (by decide +kernel)
set_option maxRecDepth 20000 in
theorem gX4_mode_X4_isLamp : GoodIn wsX4_mode (va_wsS RX4 41 yX4_isLamp wsX4_isLamp) := goodIn_app (goodIn_of _ (by decide +kernel)) ggX4_mode_X4_isLamp
set_option maxRecDepth 20000 in
theorem ggX4_mode_X0_save : GoodIn wsX4_mode wsX0_save := goodIn_r _ [16, 17, 18, 19, 20, 21, 22, 23, 24, 15, 25, 26, 27, 28, 29, 30, 31, 32, 33, 34, 35, 36, 37, 38, 39, 40, 41, 42, 43, 44, 45, 46, 47, 48, 49, 50, 51, 52, 71, 72, 58, 59, 60, 61, 62, 63, 64, 65, 66, 67, 68, 69, 70] (by decide +kernel) (by decide +kernel)
set_option maxRecDepth 20000 in
theorem gX4_mode_X0_save : GoodIn wsX4_mode (wsV RX4 57 RX0 yX0_save wsX0_save) := goodIn_app (goodIn_of _ (by decide +kernel)) ggX4_mode_X0_save
theorem dX4_mode_0 : decode cX4_mode 0 = .ok (.iload_n 1, 1) := by decide +kernel
theorem dX4_mode_1 : decode cX4_mode 1 = .ok (.invokestatic 41, 3) := by decide +kernel
theorem dX4_mode_4 : decode cX4_mode 4 = .ok (.ifCond .ne 13, 3) := by decide +kernel
theorem dX4_mode_7 : decode cX4_mode 7 = .ok (.new 45, 3) := by decide +kernel
theorem dX4_mode_10 : decode cX4_mode 10 = .ok (.dup, 1) := by decide +kernel
theorem dX4_mode_11 : decode cX4_mode 11 = .ok (.ldc 47, 2) := by decide +kernel
theorem dX4_mode_13 : decode cX4_mode 13 = .ok (.invokespecial 49, 3) := by decide +kernel
theorem dX4_mode_16 : decode cX4_mode 16 = .ok (.athrow, 1) := by decide +kernel
theorem dX4_mode_17 : decode cX4_mode 17 = .ok (.iload_n 2, 1) := by decide +kernel
theorem dX4_mode_18 : decode cX4_mode 18 = .ok (.ifCond .lt 8, 3) := by decide +kernel
theorem dX4_mode_21 : decode cX4_mode 21 = .ok (.iload_n 2, 1) := by decide +kernel
theorem dX4_mode_22 : decode cX4_mode 22 = .ok (.iconst 3, 1) := by decide +kernel
theorem dX4_mode_23 : decode cX4_mode 23 = .ok (.if_icmp .le 13, 3) := by decide +kernel
theorem dX4_mode_26 : decode cX4_mode 26 = .ok (.new 52, 3) := by decide +kernel
theorem dX4_mode_29 : decode cX4_mode 29 = .ok (.dup, 1) := by decide +kernel
theorem dX4_mode_30 : decode cX4_mode 30 = .ok (.ldc 54, 2) := by decide +kernel
theorem dX4_mode_32 : decode cX4_mode 32 = .ok (.invokespecial 56, 3) := by decide +kernel
theorem dX4_mode_35 : decode cX4_mode 35 = .ok (.athrow, 1) := by decide +kernel
theorem dX4_mode_36 : decode cX4_mode 36 = .ok (.aload_n 0, 1) := by decide +kernel
theorem dX4_mode_37 : decode cX4_mode 37 = .ok (.getfield 33, 3) := by decide +kernel
theorem dX4_mode_40 : decode cX4_mode 40 = .ok (.aload_n 0, 1) := by decide +kernel
theorem dX4_mode_41 : decode cX4_mode 41 = .ok (.getfield 10, 3) := by decide +kernel
theorem dX4_mode_44 : decode cX4_mode 44 = .ok (.invokevirtual 57, 3) := by decide +kernel
theorem dX4_mode_47 : decode cX4_mode 47 = .ok (.aload_n 0, 1) := by decide +kernel
theorem dX4_mode_48 : decode cX4_mode 48 = .ok (.getfield 10, 3) := by decide +kernel
theorem dX4_mode_51 : decode cX4_mode 51 = .ok (.getfield 61, 3) := by decide +kernel
theorem dX4_mode_54 : decode cX4_mode 54 = .ok (.iload_n 1, 1) := by decide +kernel
theorem dX4_mode_55 : decode cX4_mode 55 = .ok (.iaload, 1) := by decide +kernel
theorem dX4_mode_56 : decode cX4_mode 56 = .ok (.istore_n 3, 1) := by decide +kernel
theorem dX4_mode_57 : decode cX4_mode 57 = .ok (.aload_n 0, 1) := by decide +kernel
theorem dX4_mode_58 : decode cX4_mode 58 = .ok (.getfield 10, 3) := by decide +kernel
theorem dX4_mode_61 : decode cX4_mode 61 = .ok (.getfield 61, 3) := by decide +kernel
theorem dX4_mode_64 : decode cX4_mode 64 = .ok (.iload_n 1, 1) := by decide +kernel
theorem dX4_mode_65 : decode cX4_mode 65 = .ok (.iload_n 2, 1) := by decide +kernel
theorem dX4_mode_66 : decode cX4_mode 66 = .ok (.iastore, 1) := by decide +kernel
theorem dX4_mode_67 : decode cX4_mode 67 = .ok (.iload_n 3, 1) := by decide +kernel
theorem dX4_mode_68 : decode cX4_mode 68 = .ok (.ireturn, 1) := by decide +kernel
set_option maxRecDepth 20000 in
theorem ggX4_loss_X4_isLamp : GoodIn wsX4_loss wsX4_isLamp := goodIn_r _ [11] (by decide +kernel) (by decide +kernel)
set_option maxRecDepth 20000 in
theorem gX4_loss_X4_isLamp : GoodIn wsX4_loss (va_wsS RX4 41 yX4_isLamp wsX4_isLamp) := goodIn_app (goodIn_of _ (by decide +kernel)) ggX4_loss_X4_isLamp
set_option maxRecDepth 20000 in
theorem ggX4_loss_X0_save : GoodIn wsX4_loss wsX0_save := goodIn_r _ [16, 17, 18, 19, 20, 21, 22, 23, 24, 15, 25, 26, 27, 28, 29, 30, 31, 32, 33, 34, 35, 36, 37, 38, 39, 40, 41, 42, 43, 44, 45, 46, 47, 48, 49, 50, 51, 52, 71, 72, 58, 59, 60, 61, 62, 63, 64, 65, 66, 67, 68, 69, 70] (by decide +kernel) (by decide +kernel)
set_option maxRecDepth 20000 in
theorem gX4_loss_X0_save : GoodIn wsX4_loss (wsV RX4 57 RX0 yX0_save wsX0_save) := goodIn_app (goodIn_of _ (by decide +kernel)) ggX4_loss_X0_save
theorem dX4_loss_0 : decode cX4_loss 0 = .ok (.iload_n 1, 1) := by decide +kernel
theorem dX4_loss_1 : decode cX4_loss 1 = .ok (.invokestatic 41, 3) := by decide +kernel
theorem dX4_loss_4 : decode cX4_loss 4 = .ok (.ifCond .ne 13, 3) := by decide +kernel
theorem dX4_loss_7 : decode cX4_loss 7 = .ok (.new 45, 3) := by decide +kernel
theorem dX4_loss_10 : decode cX4_loss 10 = .ok (.dup, 1) := by decide +kernel
theorem dX4_loss_11 : decode cX4_loss 11 = .ok (.ldc 47, 2) := by decide +kernel
theorem dX4_loss_13 : decode cX4_loss 13 = .ok (.invokespecial 49, 3) := by decide +kernel
theorem dX4_loss_16 : decode cX4_loss 16 = .ok (.athrow, 1) := by decide +kernel
theorem dX4_loss_17 : decode cX4_loss 17 = .ok (.iload_n 2, 1) := by decide +kernel
theorem dX4_loss_18 : decode cX4_loss 18 = .ok (.ifCond .lt 9, 3) := by decide +kernel
theorem dX4_loss_21 : decode cX4_loss 21 = .ok (.iload_n 2, 1) := by decide +kernel
theorem dX4_loss_22 : decode cX4_loss 22 = .ok (.bipush 6, 2) := by decide +kernel
theorem dX4_loss_24 : decode cX4_loss 24 = .ok (.if_icmp .le 13, 3) := by decide +kernel
theorem dX4_loss_27 : decode cX4_loss 27 = .ok (.new 52, 3) := by decide +kernel
theorem dX4_loss_30 : decode cX4_loss 30 = .ok (.dup, 1) := by decide +kernel
theorem dX4_loss_31 : decode cX4_loss 31 = .ok (.ldc 65, 2) := by decide +kernel
theorem dX4_loss_33 : decode cX4_loss 33 = .ok (.invokespecial 56, 3) := by decide +kernel
theorem dX4_loss_36 : decode cX4_loss 36 = .ok (.athrow, 1) := by decide +kernel
theorem dX4_loss_37 : decode cX4_loss 37 = .ok (.aload_n 0, 1) := by decide +kernel
theorem dX4_loss_38 : decode cX4_loss 38 = .ok (.getfield 33, 3) := by decide +kernel
theorem dX4_loss_41 : decode cX4_loss 41 = .ok (.aload_n 0, 1) := by decide +kernel
theorem dX4_loss_42 : decode cX4_loss 42 = .ok (.getfield 10, 3) := by decide +kernel
theorem dX4_loss_45 : decode cX4_loss 45 = .ok (.invokevirtual 57, 3) := by decide +kernel
theorem dX4_loss_48 : decode cX4_loss 48 = .ok (.aload_n 0, 1) := by decide +kernel
theorem dX4_loss_49 : decode cX4_loss 49 = .ok (.getfield 10, 3) := by decide +kernel
theorem dX4_loss_52 : decode cX4_loss 52 = .ok (.getfield 67, 3) := by decide +kernel
theorem dX4_loss_55 : decode cX4_loss 55 = .ok (.iload_n 1, 1) := by decide +kernel
theorem dX4_loss_56 : decode cX4_loss 56 = .ok (.iaload, 1) := by decide +kernel
theorem dX4_loss_57 : decode cX4_loss 57 = .ok (.istore_n 3, 1) := by decide +kernel
theorem dX4_loss_58 : decode cX4_loss 58 = .ok (.aload_n 0, 1) := by decide +kernel
theorem dX4_loss_59 : decode cX4_loss 59 = .ok (.getfield 10, 3) := by decide +kernel
theorem dX4_loss_62 : decode cX4_loss 62 = .ok (.getfield 67, 3) := by decide +kernel
theorem dX4_loss_65 : decode cX4_loss 65 = .ok (.iload_n 1, 1) := by decide +kernel
theorem dX4_loss_66 : decode cX4_loss 66 = .ok (.iload_n 2, 1) := by decide +kernel
theorem dX4_loss_67 : decode cX4_loss 67 = .ok (.iastore, 1) := by decide +kernel
theorem dX4_loss_68 : decode cX4_loss 68 = .ok (.iload_n 3, 1) := by decide +kernel
theorem dX4_loss_69 : decode cX4_loss 69 = .ok (.ireturn, 1) := by decide +kernel
set_option maxRecDepth 20000 in
theorem ggX4_set_X4_isSetting : GoodIn wsX4_set wsX4_isSetting := goodIn_r _ [13] (by decide +kernel) (by decide +kernel)
set_option maxRecDepth 20000 in
theorem gX4_set_X4_isSetting : GoodIn wsX4_set (va_wsS RX4 70 yX4_isSetting wsX4_isSetting) := goodIn_app (goodIn_of _ (by decide +kernel)) ggX4_set_X4_isSetting
set_option maxRecDepth 20000 in
theorem ggX4_set_X0_save : GoodIn wsX4_set wsX0_save := goodIn_r _ [18, 19, 20, 21, 22, 23, 24, 25, 26, 17, 27, 28, 29, 30, 31, 32, 33, 34, 35, 36, 37, 38, 39, 40, 41, 42, 43, 44, 45, 46, 47, 48, 49, 50, 51, 52, 53, 54, 73, 74, 60, 61, 62, 63, 64, 65, 66, 67, 68, 69, 70, 71, 72] (by decide +kernel) (by decide +kernel)
set_option maxRecDepth 20000 in
theorem gX4_set_X0_save : GoodIn wsX4_set (wsV RX4 57 RX0 yX0_save wsX0_save) := goodIn_app (goodIn_of _ (by decide +kernel)) ggX4_set_X0_save
theorem dX4_set_0 : decode cX4_set 0 = .ok (.iload_n 1, 1) := by decide +kernel
theorem dX4_set_1 : decode cX4_set 1 = .ok (.invokestatic 70, 3) := by decide +kernel
theorem dX4_set_4 : decode cX4_set 4 = .ok (.ifCond .ne 13, 3) := by decide +kernel
theorem dX4_set_7 : decode cX4_set 7 = .ok (.new 45, 3) := by decide +kernel
theorem dX4_set_10 : decode cX4_set 10 = .ok (.dup, 1) := by decide +kernel
theorem dX4_set_11 : decode cX4_set 11 = .ok (.ldc 73, 2) := by decide +kernel
theorem dX4_set_13 : decode cX4_set 13 = .ok (.invokespecial 49, 3) := by decide +kernel
theorem dX4_set_16 : decode cX4_set 16 = .ok (.athrow, 1) := by decide +kernel
theorem dX4_set_17 : decode cX4_set 17 = .ok (.iload_n 2, 1) := by decide +kernel
theorem dX4_set_18 : decode cX4_set 18 = .ok (.getstatic 75, 3) := by decide +kernel
theorem dX4_set_21 : decode cX4_set 21 = .ok (.iload_n 1, 1) := by decide +kernel
theorem dX4_set_22 : decode cX4_set 22 = .ok (.iaload, 1) := by decide +kernel
theorem dX4_set_23 : decode cX4_set 23 = .ok (.if_icmp .lt 12, 3) := by decide +kernel
theorem dX4_set_26 : decode cX4_set 26 = .ok (.iload_n 2, 1) := by decide +kernel
theorem dX4_set_27 : decode cX4_set 27 = .ok (.getstatic 78, 3) := by decide +kernel
theorem dX4_set_30 : decode cX4_set 30 = .ok (.iload_n 1, 1) := by decide +kernel
theorem dX4_set_31 : decode cX4_set 31 = .ok (.iaload, 1) := by decide +kernel
theorem dX4_set_32 : decode cX4_set 32 = .ok (.if_icmp .le 13, 3) := by decide +kernel
theorem dX4_set_35 : decode cX4_set 35 = .ok (.new 52, 3) := by decide +kernel
theorem dX4_set_38 : decode cX4_set 38 = .ok (.dup, 1) := by decide +kernel
theorem dX4_set_39 : decode cX4_set 39 = .ok (.ldc 81, 2) := by decide +kernel
theorem dX4_set_41 : decode cX4_set 41 = .ok (.invokespecial 56, 3) := by decide +kernel
theorem dX4_set_44 : decode cX4_set 44 = .ok (.athrow, 1) := by decide +kernel
theorem dX4_set_45 : decode cX4_set 45 = .ok (.aload_n 0, 1) := by decide +kernel
theorem dX4_set_46 : decode cX4_set 46 = .ok (.getfield 33, 3) := by decide +kernel
theorem dX4_set_49 : decode cX4_set 49 = .ok (.aload_n 0, 1) := by decide +kernel
theorem dX4_set_50 : decode cX4_set 50 = .ok (.getfield 10, 3) := by decide +kernel
theorem dX4_set_53 : decode cX4_set 53 = .ok (.invokevirtual 57, 3) := by decide +kernel
theorem dX4_set_56 : decode cX4_set 56 = .ok (.aload_n 0, 1) := by decide +kernel
theorem dX4_set_57 : decode cX4_set 57 = .ok (.getfield 10, 3) := by decide +kernel
theorem dX4_set_60 : decode cX4_set 60 = .ok (.getfield 83, 3) := by decide +kernel
theorem dX4_set_63 : decode cX4_set 63 = .ok (.iload_n 1, 1) := by decide +kernel
theorem dX4_set_64 : decode cX4_set 64 = .ok (.iaload, 1) := by decide +kernel
theorem dX4_set_65 : decode cX4_set 65 = .ok (.istore_n 3, 1) := by decide +kernel
theorem dX4_set_66 : decode cX4_set 66 = .ok (.aload_n 0, 1) := by decide +kernel
theorem dX4_set_67 : decode cX4_set 67 = .ok (.getfield 10, 3) := by decide +kernel
theorem dX4_set_70 : decode cX4_set 70 = .ok (.getfield 83, 3) := by decide +kernel
theorem dX4_set_73 : decode cX4_set 73 = .ok (.iload_n 1, 1) := by decide +kernel
theorem dX4_set_74 : decode cX4_set 74 = .ok (.iload_n 2, 1) := by decide +kernel
theorem dX4_set_75 : decode cX4_set 75 = .ok (.iastore, 1) := by decide +kernel
theorem dX4_set_76 : decode cX4_set 76 = .ok (.iload_n 3, 1) := by decide +kernel
theorem dX4_set_77 : decode cX4_set 77 = .ok (.ireturn, 1) := by decide +kernel
set_option maxRecDepth 20000 in
theorem ggX4_pulse_X0_save : GoodIn wsX4_pulse wsX0_save := goodIn_r _ [10, 11, 12, 13, 14, 15, 16, 17, 18, 9, 19, 20, 21, 22, 23, 24, 25, 26, 27, 28, 29, 30, 31, 32, 33, 34, 35, 36, 37, 38, 39, 40, 41, 42, 43, 44, 45, 46, 79, 80, 66, 67, 68, 69, 70, 71, 72, 73, 74, 75, 76, 77, 78] (by decide +kernel) (by decide +kernel)
set_option maxRecDepth 20000 in
theorem gX4_pulse_X0_save : GoodIn wsX4_pulse (wsV RX4 57 RX0 yX0_save wsX0_save) := goodIn_app (goodIn_of _ (by decide +kernel)) ggX4_pulse_X0_save
set_option maxRecDepth 20000 in
theorem ggX4_pulse_X2_hasRoomFor : GoodIn wsX4_pulse wsX2_hasRoomFor := goodIn_r _ [50, 41, 66, 67, 68, 69, 70, 71, 72, 73, 74, 75, 76, 77, 78] (by decide +kernel) (by decide +kernel)
set_option maxRecDepth 20000 in
theorem gX4_pulse_X2_hasRoomFor : GoodIn wsX4_pulse (wsV RX4 88 RX2 yX2_hasRoomFor wsX2_hasRoomFor) := goodIn_app (goodIn_of _ (by decide +kernel)) ggX4_pulse_X2_hasRoomFor
set_option maxRecDepth 20000 in
theorem ggX4_pulse_X4_refuse : GoodIn wsX4_pulse wsX4_refuse := goodIn_r _ [55, 4, 56, 61, 62, 63, 64, 65, 66, 67, 68, 69, 70, 71, 72, 73, 74, 75, 76, 77, 78] (by decide +kernel) (by decide +kernel)
set_option maxRecDepth 20000 in
theorem gX4_pulse_X4_refuse : GoodIn wsX4_pulse (wsV RX4 91 RX4 yX4_refuse wsX4_refuse) := goodIn_app (goodIn_of _ (by decide +kernel)) ggX4_pulse_X4_refuse
set_option maxRecDepth 20000 in
theorem ggX4_pulse_X2_addPulse : GoodIn wsX4_pulse wsX2_addPulse := goodIn_r _ [60, 41, 32, 66, 67, 68, 69, 70, 71, 72, 73, 74, 75, 76, 77, 78] (by decide +kernel) (by decide +kernel)
set_option maxRecDepth 20000 in
theorem gX4_pulse_X2_addPulse : GoodIn wsX4_pulse (wsV RX4 95 RX2 yX2_addPulse wsX2_addPulse) := goodIn_app (goodIn_of _ (by decide +kernel)) ggX4_pulse_X2_addPulse
theorem dX4_pulse_0 : decode cX4_pulse 0 = .ok (.iload_n 1, 1) := by decide +kernel
theorem dX4_pulse_1 : decode cX4_pulse 1 = .ok (.iconst 1, 1) := by decide +kernel
theorem dX4_pulse_2 : decode cX4_pulse 2 = .ok (.if_icmp .lt 9, 3) := by decide +kernel
theorem dX4_pulse_5 : decode cX4_pulse 5 = .ok (.iload_n 1, 1) := by decide +kernel
theorem dX4_pulse_6 : decode cX4_pulse 6 = .ok (.bipush 20, 2) := by decide +kernel
theorem dX4_pulse_8 : decode cX4_pulse 8 = .ok (.if_icmp .le 13, 3) := by decide +kernel
theorem dX4_pulse_11 : decode cX4_pulse 11 = .ok (.new 52, 3) := by decide +kernel
theorem dX4_pulse_14 : decode cX4_pulse 14 = .ok (.dup, 1) := by decide +kernel
theorem dX4_pulse_15 : decode cX4_pulse 15 = .ok (.ldc 86, 2) := by decide +kernel
theorem dX4_pulse_17 : decode cX4_pulse 17 = .ok (.invokespecial 56, 3) := by decide +kernel
theorem dX4_pulse_20 : decode cX4_pulse 20 = .ok (.athrow, 1) := by decide +kernel
theorem dX4_pulse_21 : decode cX4_pulse 21 = .ok (.aload_n 0, 1) := by decide +kernel
theorem dX4_pulse_22 : decode cX4_pulse 22 = .ok (.getfield 33, 3) := by decide +kernel
theorem dX4_pulse_25 : decode cX4_pulse 25 = .ok (.aload_n 0, 1) := by decide +kernel
theorem dX4_pulse_26 : decode cX4_pulse 26 = .ok (.getfield 10, 3) := by decide +kernel
theorem dX4_pulse_29 : decode cX4_pulse 29 = .ok (.invokevirtual 57, 3) := by decide +kernel
theorem dX4_pulse_32 : decode cX4_pulse 32 = .ok (.aload_n 0, 1) := by decide +kernel
theorem dX4_pulse_33 : decode cX4_pulse 33 = .ok (.getfield 10, 3) := by decide +kernel
theorem dX4_pulse_36 : decode cX4_pulse 36 = .ok (.iconst 1, 1) := by decide +kernel
theorem dX4_pulse_37 : decode cX4_pulse 37 = .ok (.invokevirtual 88, 3) := by decide +kernel
theorem dX4_pulse_40 : decode cX4_pulse 40 = .ok (.ifCond .ne 8, 3) := by decide +kernel
theorem dX4_pulse_43 : decode cX4_pulse 43 = .ok (.aload_n 0, 1) := by decide +kernel
theorem dX4_pulse_44 : decode cX4_pulse 44 = .ok (.invokevirtual 91, 3) := by decide +kernel
theorem dX4_pulse_47 : decode cX4_pulse 47 = .ok (.ireturn, 1) := by decide +kernel
theorem dX4_pulse_48 : decode cX4_pulse 48 = .ok (.aload_n 0, 1) := by decide +kernel
theorem dX4_pulse_49 : decode cX4_pulse 49 = .ok (.getfield 10, 3) := by decide +kernel
theorem dX4_pulse_52 : decode cX4_pulse 52 = .ok (.iload_n 1, 1) := by decide +kernel
theorem dX4_pulse_53 : decode cX4_pulse 53 = .ok (.invokevirtual 95, 3) := by decide +kernel
theorem dX4_pulse_56 : decode cX4_pulse 56 = .ok (.aload_n 0, 1) := by decide +kernel
theorem dX4_pulse_57 : decode cX4_pulse 57 = .ok (.getfield 10, 3) := by decide +kernel
theorem dX4_pulse_60 : decode cX4_pulse 60 = .ok (.getfield 99, 3) := by decide +kernel
theorem dX4_pulse_63 : decode cX4_pulse 63 = .ok (.ireturn, 1) := by decide +kernel
set_option maxRecDepth 20000 in
theorem ggX4_send_X4_isWord : GoodIn wsX4_send wsX4_isWord := goodIn_r _ [9] (by decide +kernel) (by decide +kernel)
set_option maxRecDepth 20000 in
theorem gX4_send_X4_isWord : GoodIn wsX4_send (va_wsS RX4 103 yX4_isWord wsX4_isWord) := goodIn_app (goodIn_of _ (by decide +kernel)) ggX4_send_X4_isWord
set_option maxRecDepth 20000 in
theorem ggX4_send_X0_save : GoodIn wsX4_send wsX0_save := goodIn_r _ [14, 15, 16, 17, 18, 19, 20, 21, 22, 13, 23, 24, 25, 26, 27, 28, 29, 30, 31, 32, 33, 34, 35, 36, 37, 38, 39, 40, 41, 42, 43, 44, 45, 46, 47, 48, 49, 50, 89, 90, 76, 77, 78, 79, 80, 81, 82, 83, 84, 85, 86, 87, 88] (by decide +kernel) (by decide +kernel)
set_option maxRecDepth 20000 in
theorem gX4_send_X0_save : GoodIn wsX4_send (wsV RX4 57 RX0 yX0_save wsX0_save) := goodIn_app (goodIn_of _ (by decide +kernel)) ggX4_send_X0_save
set_option maxRecDepth 20000 in
theorem ggX4_send_X2_hasRoomFor : GoodIn wsX4_send wsX2_hasRoomFor := goodIn_r _ [54, 45, 76, 77, 78, 79, 80, 81, 82, 83, 84, 85, 86, 87, 88] (by decide +kernel) (by decide +kernel)
set_option maxRecDepth 20000 in
theorem gX4_send_X2_hasRoomFor : GoodIn wsX4_send (wsV RX4 88 RX2 yX2_hasRoomFor wsX2_hasRoomFor) := goodIn_app (goodIn_of _ (by decide +kernel)) ggX4_send_X2_hasRoomFor
set_option maxRecDepth 20000 in
theorem ggX4_send_X4_refuse : GoodIn wsX4_send wsX4_refuse := goodIn_r _ [58, 4, 59, 71, 72, 73, 74, 75, 76, 77, 78, 79, 80, 81, 82, 83, 84, 85, 86, 87, 88] (by decide +kernel) (by decide +kernel)
set_option maxRecDepth 20000 in
theorem gX4_send_X4_refuse : GoodIn wsX4_send (wsV RX4 91 RX4 yX4_refuse wsX4_refuse) := goodIn_app (goodIn_of _ (by decide +kernel)) ggX4_send_X4_refuse
set_option maxRecDepth 20000 in
theorem ggX4_send_X2_addWord : GoodIn wsX4_send wsX2_addWord := goodIn_r _ [63, 64, 65, 19, 66, 67, 68, 69, 70, 45, 36, 76, 77, 78, 79, 80, 81, 82, 83, 84, 85, 86, 87, 88] (by decide +kernel) (by decide +kernel)
set_option maxRecDepth 20000 in
theorem gX4_send_X2_addWord : GoodIn wsX4_send (wsV RX4 108 RX2 yX2_addWord wsX2_addWord) := goodIn_app (goodIn_of _ (by decide +kernel)) ggX4_send_X2_addWord
theorem dX4_send_0 : decode cX4_send 0 = .ok (.iload_n 1, 1) := by decide +kernel
theorem dX4_send_1 : decode cX4_send 1 = .ok (.invokestatic 103, 3) := by decide +kernel
theorem dX4_send_4 : decode cX4_send 4 = .ok (.ifCond .ne 13, 3) := by decide +kernel
theorem dX4_send_7 : decode cX4_send 7 = .ok (.new 52, 3) := by decide +kernel
theorem dX4_send_10 : decode cX4_send 10 = .ok (.dup, 1) := by decide +kernel
theorem dX4_send_11 : decode cX4_send 11 = .ok (.ldc 106, 2) := by decide +kernel
theorem dX4_send_13 : decode cX4_send 13 = .ok (.invokespecial 56, 3) := by decide +kernel
theorem dX4_send_16 : decode cX4_send 16 = .ok (.athrow, 1) := by decide +kernel
theorem dX4_send_17 : decode cX4_send 17 = .ok (.aload_n 0, 1) := by decide +kernel
theorem dX4_send_18 : decode cX4_send 18 = .ok (.getfield 33, 3) := by decide +kernel
theorem dX4_send_21 : decode cX4_send 21 = .ok (.aload_n 0, 1) := by decide +kernel
theorem dX4_send_22 : decode cX4_send 22 = .ok (.getfield 10, 3) := by decide +kernel
theorem dX4_send_25 : decode cX4_send 25 = .ok (.invokevirtual 57, 3) := by decide +kernel
theorem dX4_send_28 : decode cX4_send 28 = .ok (.aload_n 0, 1) := by decide +kernel
theorem dX4_send_29 : decode cX4_send 29 = .ok (.getfield 10, 3) := by decide +kernel
theorem dX4_send_32 : decode cX4_send 32 = .ok (.bipush 12, 2) := by decide +kernel
theorem dX4_send_34 : decode cX4_send 34 = .ok (.invokevirtual 88, 3) := by decide +kernel
theorem dX4_send_37 : decode cX4_send 37 = .ok (.ifCond .ne 8, 3) := by decide +kernel
theorem dX4_send_40 : decode cX4_send 40 = .ok (.aload_n 0, 1) := by decide +kernel
theorem dX4_send_41 : decode cX4_send 41 = .ok (.invokevirtual 91, 3) := by decide +kernel
theorem dX4_send_44 : decode cX4_send 44 = .ok (.ireturn, 1) := by decide +kernel
theorem dX4_send_45 : decode cX4_send 45 = .ok (.aload_n 0, 1) := by decide +kernel
theorem dX4_send_46 : decode cX4_send 46 = .ok (.getfield 10, 3) := by decide +kernel
theorem dX4_send_49 : decode cX4_send 49 = .ok (.iload_n 1, 1) := by decide +kernel
theorem dX4_send_50 : decode cX4_send 50 = .ok (.invokevirtual 108, 3) := by decide +kernel
theorem dX4_send_53 : decode cX4_send 53 = .ok (.aload_n 0, 1) := by decide +kernel
theorem dX4_send_54 : decode cX4_send 54 = .ok (.getfield 10, 3) := by decide +kernel
theorem dX4_send_57 : decode cX4_send 57 = .ok (.getfield 99, 3) := by decide +kernel
theorem dX4_send_60 : decode cX4_send 60 = .ok (.ireturn, 1) := by decide +kernel
set_option maxRecDepth 20000 in
theorem ggX4_gap_X0_save : GoodIn wsX4_gap wsX0_save := goodIn_r _ [7, 8, 9, 10, 11, 12, 13, 14, 15, 6, 16, 17, 18, 19, 20, 21, 22, 23, 24, 25, 26, 27, 28, 29, 30, 31, 32, 33, 34, 35, 36, 37, 38, 39, 40, 41, 42, 43, 114, 115, 116, 117, 118, 119, 120, 121, 122, 123, 124, 125, 126, 127, 128] (by decide +kernel) (by decide +kernel)
set_option maxRecDepth 20000 in
theorem gX4_gap_X0_save : GoodIn wsX4_gap (wsV RX4 57 RX0 yX0_save wsX0_save) := goodIn_app (goodIn_of _ (by decide +kernel)) ggX4_gap_X0_save
set_option maxRecDepth 20000 in
theorem ggX4_gap_X4_letGapBe : GoodIn wsX4_gap wsX4_letGapBe := goodIn_r _ [48, 49, 2, 50, 51, 52, 53, 54, 55, 56, 57, 58, 59, 60, 61, 62, 63, 64, 65, 66, 67, 68, 35, 36, 37, 69, 70, 71, 72, 73, 74, 75, 76, 77, 78, 79, 80, 81, 82, 83, 12, 84, 85, 86, 87, 88, 23, 89, 90, 91, 92, 93, 94, 95, 96, 97, 98, 99, 100, 28, 101, 102, 103, 104, 105, 106, 107, 108, 109, 110, 111, 112, 113, 116, 117, 118, 119, 120, 121, 122, 123, 124, 125, 126, 127, 128, 129, 130, 131, 132, 133, 134] (by decide +kernel) (by decide +kernel)
set_option maxRecDepth 20000 in
theorem gX4_gap_X4_letGapBe : GoodIn wsX4_gap (wsV RX4 111 RX4 yX4_letGapBe wsX4_letGapBe) := goodIn_app (goodIn_of _ (by decide +kernel)) ggX4_gap_X4_letGapBe
theorem dX4_gap_0 : decode cX4_gap 0 = .ok (.aload_n 0, 1) := by decide +kernel
theorem dX4_gap_1 : decode cX4_gap 1 = .ok (.getfield 33, 3) := by decide +kernel
theorem dX4_gap_4 : decode cX4_gap 4 = .ok (.aload_n 0, 1) := by decide +kernel
theorem dX4_gap_5 : decode cX4_gap 5 = .ok (.getfield 10, 3) := by decide +kernel
theorem dX4_gap_8 : decode cX4_gap 8 = .ok (.invokevirtual 57, 3) := by decide +kernel
theorem dX4_gap_11 : decode cX4_gap 11 = .ok (.aload_n 0, 1) := by decide +kernel
theorem dX4_gap_12 : decode cX4_gap 12 = .ok (.invokevirtual 111, 3) := by decide +kernel
theorem dX4_gap_15 : decode cX4_gap 15 = .ok (.ireturn, 1) := by decide +kernel
set_option maxRecDepth 20000 in
theorem ggX4_drop_X0_save : GoodIn wsX4_drop wsX0_save := goodIn_r _ [9, 10, 11, 12, 13, 14, 15, 16, 17, 8, 18, 19, 20, 21, 22, 23, 24, 25, 26, 27, 28, 29, 30, 31, 32, 33, 34, 35, 36, 37, 38, 39, 40, 41, 42, 43, 44, 45, 64, 65, 51, 52, 53, 54, 55, 56, 57, 58, 59, 60, 61, 62, 63] (by decide +kernel) (by decide +kernel)
set_option maxRecDepth 20000 in
theorem gX4_drop_X0_save : GoodIn wsX4_drop (wsV RX4 57 RX0 yX0_save wsX0_save) := goodIn_app (goodIn_of _ (by decide +kernel)) ggX4_drop_X0_save
theorem dX4_drop_0 : decode cX4_drop 0 = .ok (.aload_n 0, 1) := by decide +kernel
theorem dX4_drop_1 : decode cX4_drop 1 = .ok (.getfield 33, 3) := by decide +kernel
theorem dX4_drop_4 : decode cX4_drop 4 = .ok (.aload_n 0, 1) := by decide +kernel
theorem dX4_drop_5 : decode cX4_drop 5 = .ok (.getfield 10, 3) := by decide +kernel
theorem dX4_drop_8 : decode cX4_drop 8 = .ok (.invokevirtual 57, 3) := by decide +kernel
theorem dX4_drop_11 : decode cX4_drop 11 = .ok (.aload_n 0, 1) := by decide +kernel
theorem dX4_drop_12 : decode cX4_drop 12 = .ok (.getfield 10, 3) := by decide +kernel
theorem dX4_drop_15 : decode cX4_drop 15 = .ok (.getfield 99, 3) := by decide +kernel
theorem dX4_drop_18 : decode cX4_drop 18 = .ok (.istore_n 1, 1) := by decide +kernel
theorem dX4_drop_19 : decode cX4_drop 19 = .ok (.aload_n 0, 1) := by decide +kernel
theorem dX4_drop_20 : decode cX4_drop 20 = .ok (.getfield 10, 3) := by decide +kernel
theorem dX4_drop_23 : decode cX4_drop 23 = .ok (.dup, 1) := by decide +kernel
theorem dX4_drop_24 : decode cX4_drop 24 = .ok (.getfield 114, 3) := by decide +kernel
theorem dX4_drop_27 : decode cX4_drop 27 = .ok (.iload_n 1, 1) := by decide +kernel
theorem dX4_drop_28 : decode cX4_drop 28 = .ok (.iadd, 1) := by decide +kernel
theorem dX4_drop_29 : decode cX4_drop 29 = .ok (.putfield 114, 3) := by decide +kernel
theorem dX4_drop_32 : decode cX4_drop 32 = .ok (.aload_n 0, 1) := by decide +kernel
theorem dX4_drop_33 : decode cX4_drop 33 = .ok (.getfield 10, 3) := by decide +kernel
theorem dX4_drop_36 : decode cX4_drop 36 = .ok (.iconst 0, 1) := by decide +kernel
theorem dX4_drop_37 : decode cX4_drop 37 = .ok (.putfield 99, 3) := by decide +kernel
theorem dX4_drop_40 : decode cX4_drop 40 = .ok (.iload_n 1, 1) := by decide +kernel
theorem dX4_drop_41 : decode cX4_drop 41 = .ok (.ireturn, 1) := by decide +kernel
set_option maxRecDepth 20000 in
theorem ggX4_append_X3_add : GoodIn wsX4_append wsX3_add := goodIn_r _ [11, 12, 13, 19, 20] (by decide +kernel) (by decide +kernel)
set_option maxRecDepth 20000 in
theorem gX4_append_X3_add : GoodIn wsX4_append (wsV RX4 127 RX3 yX3_add wsX3_add) := goodIn_app (goodIn_of _ (by decide +kernel)) ggX4_append_X3_add
theorem dX4_append_0 : decode cX4_append 0 = .ok (.iload_n 1, 1) := by decide +kernel
theorem dX4_append_1 : decode cX4_append 1 = .ok (.bipush 33, 2) := by decide +kernel
theorem dX4_append_3 : decode cX4_append 3 = .ok (.if_icmp .lt 9, 3) := by decide +kernel
theorem dX4_append_6 : decode cX4_append 6 = .ok (.iload_n 1, 1) := by decide +kernel
theorem dX4_append_7 : decode cX4_append 7 = .ok (.bipush 126, 2) := by decide +kernel
theorem dX4_append_9 : decode cX4_append 9 = .ok (.if_icmp .le 13, 3) := by decide +kernel
theorem dX4_append_12 : decode cX4_append 12 = .ok (.new 52, 3) := by decide +kernel
theorem dX4_append_15 : decode cX4_append 15 = .ok (.dup, 1) := by decide +kernel
theorem dX4_append_16 : decode cX4_append 16 = .ok (.ldc 117, 2) := by decide +kernel
theorem dX4_append_18 : decode cX4_append 18 = .ok (.invokespecial 56, 3) := by decide +kernel
theorem dX4_append_21 : decode cX4_append 21 = .ok (.athrow, 1) := by decide +kernel
theorem dX4_append_22 : decode cX4_append 22 = .ok (.aload_n 0, 1) := by decide +kernel
theorem dX4_append_23 : decode cX4_append 23 = .ok (.getfield 26, 3) := by decide +kernel
theorem dX4_append_26 : decode cX4_append 26 = .ok (.getfield 119, 3) := by decide +kernel
theorem dX4_append_29 : decode cX4_append 29 = .ok (.bipush 60, 2) := by decide +kernel
theorem dX4_append_31 : decode cX4_append 31 = .ok (.if_icmp .lt 13, 3) := by decide +kernel
theorem dX4_append_34 : decode cX4_append 34 = .ok (.new 122, 3) := by decide +kernel
theorem dX4_append_37 : decode cX4_append 37 = .ok (.dup, 1) := by decide +kernel
theorem dX4_append_38 : decode cX4_append 38 = .ok (.ldc 124, 2) := by decide +kernel
theorem dX4_append_40 : decode cX4_append 40 = .ok (.invokespecial 126, 3) := by decide +kernel
theorem dX4_append_43 : decode cX4_append 43 = .ok (.athrow, 1) := by decide +kernel
theorem dX4_append_44 : decode cX4_append 44 = .ok (.aload_n 0, 1) := by decide +kernel
theorem dX4_append_45 : decode cX4_append 45 = .ok (.getfield 26, 3) := by decide +kernel
theorem dX4_append_48 : decode cX4_append 48 = .ok (.iload_n 1, 1) := by decide +kernel
theorem dX4_append_49 : decode cX4_append 49 = .ok (.i2c, 1) := by decide +kernel
theorem dX4_append_50 : decode cX4_append 50 = .ok (.invokevirtual 127, 3) := by decide +kernel
theorem dX4_append_53 : decode cX4_append 53 = .ok (.aload_n 0, 1) := by decide +kernel
theorem dX4_append_54 : decode cX4_append 54 = .ok (.getfield 26, 3) := by decide +kernel
theorem dX4_append_57 : decode cX4_append 57 = .ok (.getfield 119, 3) := by decide +kernel
theorem dX4_append_60 : decode cX4_append 60 = .ok (.ireturn, 1) := by decide +kernel
set_option maxRecDepth 20000 in
theorem ggX4_load_X3_wordsTold : GoodIn wsX4_load wsX3_wordsTold := goodIn_r _ [10, 11, 12, 13, 14, 9, 15, 16, 17, 18, 19, 20, 21, 22, 23, 24, 25, 26, 27, 28, 29, 30, 31, 169, 170] (by decide +kernel) (by decide +kernel)
set_option maxRecDepth 20000 in
theorem gX4_load_X3_wordsTold : GoodIn wsX4_load (wsV RX4 137 RX3 yX3_wordsTold wsX3_wordsTold) := goodIn_app (goodIn_of _ (by decide +kernel)) ggX4_load_X3_wordsTold
set_option maxRecDepth 20000 in
theorem ggX4_load_X0_save : GoodIn wsX4_load wsX0_save := goodIn_r _ [36, 37, 38, 39, 40, 41, 42, 43, 44, 35, 45, 46, 47, 48, 49, 50, 51, 52, 53, 54, 55, 56, 57, 58, 59, 60, 61, 62, 63, 64, 65, 66, 67, 68, 69, 70, 71, 72, 171, 172, 173, 174, 175, 176, 177, 178, 179, 180, 181, 182, 183, 184, 185] (by decide +kernel) (by decide +kernel)
set_option maxRecDepth 20000 in
theorem gX4_load_X0_save : GoodIn wsX4_load (wsV RX4 57 RX0 yX0_save wsX0_save) := goodIn_app (goodIn_of _ (by decide +kernel)) ggX4_load_X0_save
set_option maxRecDepth 20000 in
theorem ggX4_load_X2_hasRoomFor : GoodIn wsX4_load wsX2_hasRoomFor := goodIn_r _ [76, 67, 173, 174, 175, 176, 177, 178, 179, 180, 181, 182, 183, 184, 185] (by decide +kernel) (by decide +kernel)
set_option maxRecDepth 20000 in
theorem gX4_load_X2_hasRoomFor : GoodIn wsX4_load (wsV RX4 88 RX2 yX2_hasRoomFor wsX2_hasRoomFor) := goodIn_app (goodIn_of _ (by decide +kernel)) ggX4_load_X2_hasRoomFor
set_option maxRecDepth 20000 in
theorem ggX4_load_X3_empty : GoodIn wsX4_load wsX3_empty := goodIn_r _ [80, 11, 169, 170] (by decide +kernel) (by decide +kernel)
set_option maxRecDepth 20000 in
theorem gX4_load_X3_empty : GoodIn wsX4_load (wsV RX4 131 RX3 yX3_empty wsX3_empty) := goodIn_app (goodIn_of _ (by decide +kernel)) ggX4_load_X3_empty
set_option maxRecDepth 20000 in
theorem ggX4_load_X4_refuse : GoodIn wsX4_load wsX4_refuse := goodIn_r _ [85, 5, 86, 164, 165, 166, 167, 168, 173, 174, 175, 176, 177, 178, 179, 180, 181, 182, 183, 184, 185] (by decide +kernel) (by decide +kernel)
set_option maxRecDepth 20000 in
theorem gX4_load_X4_refuse : GoodIn wsX4_load (wsV RX4 91 RX4 yX4_refuse wsX4_refuse) := goodIn_app (goodIn_of _ (by decide +kernel)) ggX4_load_X4_refuse
set_option maxRecDepth 20000 in
theorem ggX4_load_X3_wordAt : GoodIn wsX4_load wsX3_wordAt := goodIn_r _ [90, 16, 17, 18, 9, 19, 11, 20, 29, 30, 31, 169, 170] (by decide +kernel) (by decide +kernel)
set_option maxRecDepth 20000 in
theorem gX4_load_X3_wordAt : GoodIn wsX4_load (wsV RX4 142 RX3 yX3_wordAt wsX3_wordAt) := goodIn_app (goodIn_of _ (by decide +kernel)) ggX4_load_X3_wordAt
set_option maxRecDepth 20000 in
theorem ggX4_load_X2_addWord : GoodIn wsX4_load wsX2_addWord := goodIn_r _ [94, 95, 96, 41, 97, 98, 99, 100, 101, 67, 58, 173, 174, 175, 176, 177, 178, 179, 180, 181, 182, 183, 184, 185] (by decide +kernel) (by decide +kernel)
set_option maxRecDepth 20000 in
theorem gX4_load_X2_addWord : GoodIn wsX4_load (wsV RX4 108 RX2 yX2_addWord wsX2_addWord) := goodIn_app (goodIn_of _ (by decide +kernel)) ggX4_load_X2_addWord
set_option maxRecDepth 20000 in
theorem ggX4_load_X3_endsWithGap : GoodIn wsX4_load wsX3_endsWithGap := goodIn_r _ [15, 11, 16, 17, 18, 9, 19, 20, 169, 170] (by decide +kernel) (by decide +kernel)
set_option maxRecDepth 20000 in
theorem gX4_load_X3_endsWithGap : GoodIn wsX4_load (wsV RX4 146 RX3 yX3_endsWithGap wsX3_endsWithGap) := goodIn_app (goodIn_of _ (by decide +kernel)) ggX4_load_X3_endsWithGap
set_option maxRecDepth 20000 in
theorem ggX4_load_X4_letGapBe : GoodIn wsX4_load wsX4_letGapBe := goodIn_r _ [106, 107, 5, 108, 109, 110, 111, 112, 113, 114, 115, 116, 117, 118, 119, 120, 121, 122, 123, 124, 125, 126, 64, 65, 66, 127, 128, 129, 130, 131, 132, 133, 134, 135, 136, 137, 138, 139, 140, 141, 41, 142, 143, 144, 145, 146, 52, 147, 148, 149, 150, 151, 152, 153, 154, 155, 156, 157, 158, 57, 159, 160, 161, 162, 163, 95, 96, 97, 164, 165, 166, 167, 168, 173, 174, 175, 176, 177, 178, 179, 180, 181, 182, 183, 184, 185, 186, 187, 188, 189, 190, 191] (by decide +kernel) (by decide +kernel)
set_option maxRecDepth 20000 in
theorem gX4_load_X4_letGapBe : GoodIn wsX4_load (wsV RX4 111 RX4 yX4_letGapBe wsX4_letGapBe) := goodIn_app (goodIn_of _ (by decide +kernel)) ggX4_load_X4_letGapBe
theorem dX4_load_0 : decode cX4_load 0 = .ok (.aload_n 0, 1) := by decide +kernel
theorem dX4_load_1 : decode cX4_load 1 = .ok (.getfield 26, 3) := by decide +kernel
theorem dX4_load_4 : decode cX4_load 4 = .ok (.invokevirtual 137, 3) := by decide +kernel
theorem dX4_load_7 : decode cX4_load 7 = .ok (.istore_n 1, 1) := by decide +kernel
theorem dX4_load_8 : decode cX4_load 8 = .ok (.iload_n 1, 1) := by decide +kernel
theorem dX4_load_9 : decode cX4_load 9 = .ok (.ifCond .ne 13, 3) := by decide +kernel
theorem dX4_load_12 : decode cX4_load 12 = .ok (.new 52, 3) := by decide +kernel
theorem dX4_load_15 : decode cX4_load 15 = .ok (.dup, 1) := by decide +kernel
theorem dX4_load_16 : decode cX4_load 16 = .ok (.ldc 140, 2) := by decide +kernel
theorem dX4_load_18 : decode cX4_load 18 = .ok (.invokespecial 56, 3) := by decide +kernel
theorem dX4_load_21 : decode cX4_load 21 = .ok (.athrow, 1) := by decide +kernel
theorem dX4_load_22 : decode cX4_load 22 = .ok (.aload_n 0, 1) := by decide +kernel
theorem dX4_load_23 : decode cX4_load 23 = .ok (.getfield 33, 3) := by decide +kernel
theorem dX4_load_26 : decode cX4_load 26 = .ok (.aload_n 0, 1) := by decide +kernel
theorem dX4_load_27 : decode cX4_load 27 = .ok (.getfield 10, 3) := by decide +kernel
theorem dX4_load_30 : decode cX4_load 30 = .ok (.invokevirtual 57, 3) := by decide +kernel
theorem dX4_load_33 : decode cX4_load 33 = .ok (.aload_n 0, 1) := by decide +kernel
theorem dX4_load_34 : decode cX4_load 34 = .ok (.getfield 10, 3) := by decide +kernel
theorem dX4_load_37 : decode cX4_load 37 = .ok (.iload_n 1, 1) := by decide +kernel
theorem dX4_load_38 : decode cX4_load 38 = .ok (.bipush 12, 2) := by decide +kernel
theorem dX4_load_40 : decode cX4_load 40 = .ok (.imul, 1) := by decide +kernel
theorem dX4_load_41 : decode cX4_load 41 = .ok (.invokevirtual 88, 3) := by decide +kernel
theorem dX4_load_44 : decode cX4_load 44 = .ok (.ifCond .ne 15, 3) := by decide +kernel
theorem dX4_load_47 : decode cX4_load 47 = .ok (.aload_n 0, 1) := by decide +kernel
theorem dX4_load_48 : decode cX4_load 48 = .ok (.getfield 26, 3) := by decide +kernel
theorem dX4_load_51 : decode cX4_load 51 = .ok (.invokevirtual 131, 3) := by decide +kernel
theorem dX4_load_54 : decode cX4_load 54 = .ok (.aload_n 0, 1) := by decide +kernel
theorem dX4_load_55 : decode cX4_load 55 = .ok (.invokevirtual 91, 3) := by decide +kernel
theorem dX4_load_58 : decode cX4_load 58 = .ok (.ireturn, 1) := by decide +kernel
theorem dX4_load_59 : decode cX4_load 59 = .ok (.iconst 0, 1) := by decide +kernel
theorem dX4_load_60 : decode cX4_load 60 = .ok (.istore_n 2, 1) := by decide +kernel
theorem dX4_load_61 : decode cX4_load 61 = .ok (.iload_n 2, 1) := by decide +kernel
theorem dX4_load_62 : decode cX4_load 62 = .ok (.iload_n 1, 1) := by decide +kernel
theorem dX4_load_63 : decode cX4_load 63 = .ok (.if_icmp .ge 24, 3) := by decide +kernel
theorem dX4_load_66 : decode cX4_load 66 = .ok (.aload_n 0, 1) := by decide +kernel
theorem dX4_load_67 : decode cX4_load 67 = .ok (.getfield 10, 3) := by decide +kernel
theorem dX4_load_70 : decode cX4_load 70 = .ok (.aload_n 0, 1) := by decide +kernel
theorem dX4_load_71 : decode cX4_load 71 = .ok (.getfield 26, 3) := by decide +kernel
theorem dX4_load_74 : decode cX4_load 74 = .ok (.iload_n 2, 1) := by decide +kernel
theorem dX4_load_75 : decode cX4_load 75 = .ok (.invokevirtual 142, 3) := by decide +kernel
theorem dX4_load_78 : decode cX4_load 78 = .ok (.invokevirtual 108, 3) := by decide +kernel
theorem dX4_load_81 : decode cX4_load 81 = .ok (.iinc 2 1, 3) := by decide +kernel
theorem dX4_load_84 : decode cX4_load 84 = .ok (.goto (-23), 3) := by decide +kernel
theorem dX4_load_87 : decode cX4_load 87 = .ok (.aload_n 0, 1) := by decide +kernel
theorem dX4_load_88 : decode cX4_load 88 = .ok (.getfield 26, 3) := by decide +kernel
theorem dX4_load_91 : decode cX4_load 91 = .ok (.invokevirtual 146, 3) := by decide +kernel
theorem dX4_load_94 : decode cX4_load 94 = .ok (.ifCond .eq 8, 3) := by decide +kernel
theorem dX4_load_97 : decode cX4_load 97 = .ok (.aload_n 0, 1) := by decide +kernel
theorem dX4_load_98 : decode cX4_load 98 = .ok (.invokevirtual 111, 3) := by decide +kernel
theorem dX4_load_101 : decode cX4_load 101 = .ok (.pop, 1) := by decide +kernel
theorem dX4_load_102 : decode cX4_load 102 = .ok (.aload_n 0, 1) := by decide +kernel
theorem dX4_load_103 : decode cX4_load 103 = .ok (.getfield 26, 3) := by decide +kernel
theorem dX4_load_106 : decode cX4_load 106 = .ok (.invokevirtual 131, 3) := by decide +kernel
theorem dX4_load_109 : decode cX4_load 109 = .ok (.iload_n 1, 1) := by decide +kernel
theorem dX4_load_110 : decode cX4_load 110 = .ok (.ireturn, 1) := by decide +kernel
set_option maxRecDepth 20000 in
theorem ggX4_keep_X4_isSlot : GoodIn wsX4_keep wsX4_isSlot := goodIn_r _ [12] (by decide +kernel) (by decide +kernel)
set_option maxRecDepth 20000 in
theorem gX4_keep_X4_isSlot : GoodIn wsX4_keep (va_wsS RX4 150 yX4_isSlot wsX4_isSlot) := goodIn_app (goodIn_of _ (by decide +kernel)) ggX4_keep_X4_isSlot
set_option maxRecDepth 20000 in
theorem ggX4_keep_X2_init : GoodIn wsX4_keep wsX2_init := goodIn_r _ [14, 15, 16, 17, 18, 19, 20, 21, 22, 23, 24, 25, 45, 46, 47, 48, 49, 50, 51, 52, 53, 54, 55, 56, 57] (by decide +kernel) (by decide +kernel)
set_option maxRecDepth 20000 in
theorem gX4_keep_X2_init_n9 : GoodIn wsX4_keep (wsX2_init) := ggX4_keep_X2_init
set_option maxRecDepth 20000 in
theorem ggX4_keep_X2_copyFrom : GoodIn wsX4_keep wsX2_copyFrom := goodIn_r _ [29, 19, 30, 31, 32, 33, 20, 21, 22, 23, 24, 25, 34, 35, 36, 37, 38, 39, 45, 46, 47, 48, 49, 50, 51, 52, 53, 54, 55, 56, 57] (by decide +kernel) (by decide +kernel)
set_option maxRecDepth 20000 in
theorem gX4_keep_X2_copyFrom : GoodIn wsX4_keep (wsV RX4 155 RX2 yX2_copyFrom wsX2_copyFrom) := goodIn_app (goodIn_of _ (by decide +kernel)) ggX4_keep_X2_copyFrom
theorem dX4_keep_0 : decode cX4_keep 0 = .ok (.iload_n 1, 1) := by decide +kernel
theorem dX4_keep_1 : decode cX4_keep 1 = .ok (.invokestatic 150, 3) := by decide +kernel
theorem dX4_keep_4 : decode cX4_keep 4 = .ok (.ifCond .ne 13, 3) := by decide +kernel
theorem dX4_keep_7 : decode cX4_keep 7 = .ok (.new 52, 3) := by decide +kernel
theorem dX4_keep_10 : decode cX4_keep 10 = .ok (.dup, 1) := by decide +kernel
theorem dX4_keep_11 : decode cX4_keep 11 = .ok (.ldc 153, 2) := by decide +kernel
theorem dX4_keep_13 : decode cX4_keep 13 = .ok (.invokespecial 56, 3) := by decide +kernel
theorem dX4_keep_16 : decode cX4_keep 16 = .ok (.athrow, 1) := by decide +kernel
theorem dX4_keep_17 : decode cX4_keep 17 = .ok (.aload_n 0, 1) := by decide +kernel
theorem dX4_keep_18 : decode cX4_keep 18 = .ok (.getfield 37, 3) := by decide +kernel
theorem dX4_keep_21 : decode cX4_keep 21 = .ok (.iload_n 1, 1) := by decide +kernel
theorem dX4_keep_22 : decode cX4_keep 22 = .ok (.aaload, 1) := by decide +kernel
theorem dX4_keep_23 : decode cX4_keep 23 = .ok (.astore_n 2, 1) := by decide +kernel
theorem dX4_keep_24 : decode cX4_keep 24 = .ok (.aload_n 2, 1) := by decide +kernel
theorem dX4_keep_25 : decode cX4_keep 25 = .ok (.ifnonnull 18, 3) := by decide +kernel
theorem dX4_keep_28 : decode cX4_keep 28 = .ok (.new 7, 3) := by decide +kernel
theorem dX4_keep_31 : decode cX4_keep 31 = .ok (.dup, 1) := by decide +kernel
theorem dX4_keep_32 : decode cX4_keep 32 = .ok (.invokespecial 9, 3) := by decide +kernel
theorem dX4_keep_35 : decode cX4_keep 35 = .ok (.astore_n 2, 1) := by decide +kernel
theorem dX4_keep_36 : decode cX4_keep 36 = .ok (.aload_n 0, 1) := by decide +kernel
theorem dX4_keep_37 : decode cX4_keep 37 = .ok (.getfield 37, 3) := by decide +kernel
theorem dX4_keep_40 : decode cX4_keep 40 = .ok (.iload_n 1, 1) := by decide +kernel
theorem dX4_keep_41 : decode cX4_keep 41 = .ok (.aload_n 2, 1) := by decide +kernel
theorem dX4_keep_42 : decode cX4_keep 42 = .ok (.aastore, 1) := by decide +kernel
theorem dX4_keep_43 : decode cX4_keep 43 = .ok (.aload_n 2, 1) := by decide +kernel
theorem dX4_keep_44 : decode cX4_keep 44 = .ok (.aload_n 0, 1) := by decide +kernel
theorem dX4_keep_45 : decode cX4_keep 45 = .ok (.getfield 10, 3) := by decide +kernel
theorem dX4_keep_48 : decode cX4_keep 48 = .ok (.invokevirtual 155, 3) := by decide +kernel
theorem dX4_keep_51 : decode cX4_keep 51 = .ok (.aload_n 0, 1) := by decide +kernel
theorem dX4_keep_52 : decode cX4_keep 52 = .ok (.getfield 10, 3) := by decide +kernel
theorem dX4_keep_55 : decode cX4_keep 55 = .ok (.getfield 99, 3) := by decide +kernel
theorem dX4_keep_58 : decode cX4_keep 58 = .ok (.ireturn, 1) := by decide +kernel
set_option maxRecDepth 20000 in
theorem ggX4_goBack_X4_isSlot : GoodIn wsX4_goBack wsX4_isSlot := goodIn_r _ [12] (by decide +kernel) (by decide +kernel)
set_option maxRecDepth 20000 in
theorem gX4_goBack_X4_isSlot : GoodIn wsX4_goBack (va_wsS RX4 150 yX4_isSlot wsX4_isSlot) := goodIn_app (goodIn_of _ (by decide +kernel)) ggX4_goBack_X4_isSlot
set_option maxRecDepth 20000 in
theorem ggX4_goBack_X0_save : GoodIn wsX4_goBack wsX0_save := goodIn_r _ [17, 18, 19, 20, 21, 22, 23, 24, 25, 16, 26, 27, 28, 29, 30, 31, 32, 33, 34, 35, 36, 37, 38, 39, 40, 41, 42, 43, 44, 45, 46, 47, 48, 49, 50, 51, 52, 53, 73, 74, 60, 61, 62, 63, 64, 65, 66, 67, 68, 69, 70, 71, 72] (by decide +kernel) (by decide +kernel)
set_option maxRecDepth 20000 in
theorem gX4_goBack_X0_save : GoodIn wsX4_goBack (wsV RX4 57 RX0 yX0_save wsX0_save) := goodIn_app (goodIn_of _ (by decide +kernel)) ggX4_goBack_X0_save
set_option maxRecDepth 20000 in
theorem ggX4_goBack_X2_copyFrom : GoodIn wsX4_goBack wsX2_copyFrom := goodIn_r _ [43, 33, 44, 45, 46, 47, 34, 35, 36, 37, 38, 39, 48, 49, 50, 51, 52, 53, 60, 61, 62, 63, 64, 65, 66, 67, 68, 69, 70, 71, 72] (by decide +kernel) (by decide +kernel)
set_option maxRecDepth 20000 in
theorem gX4_goBack_X2_copyFrom : GoodIn wsX4_goBack (wsV RX4 155 RX2 yX2_copyFrom wsX2_copyFrom) := goodIn_app (goodIn_of _ (by decide +kernel)) ggX4_goBack_X2_copyFrom
theorem dX4_goBack_0 : decode cX4_goBack 0 = .ok (.iload_n 1, 1) := by decide +kernel
theorem dX4_goBack_1 : decode cX4_goBack 1 = .ok (.invokestatic 150, 3) := by decide +kernel
theorem dX4_goBack_4 : decode cX4_goBack 4 = .ok (.ifCond .ne 13, 3) := by decide +kernel
theorem dX4_goBack_7 : decode cX4_goBack 7 = .ok (.new 52, 3) := by decide +kernel
theorem dX4_goBack_10 : decode cX4_goBack 10 = .ok (.dup, 1) := by decide +kernel
theorem dX4_goBack_11 : decode cX4_goBack 11 = .ok (.ldc 153, 2) := by decide +kernel
theorem dX4_goBack_13 : decode cX4_goBack 13 = .ok (.invokespecial 56, 3) := by decide +kernel
theorem dX4_goBack_16 : decode cX4_goBack 16 = .ok (.athrow, 1) := by decide +kernel
theorem dX4_goBack_17 : decode cX4_goBack 17 = .ok (.aload_n 0, 1) := by decide +kernel
theorem dX4_goBack_18 : decode cX4_goBack 18 = .ok (.getfield 37, 3) := by decide +kernel
theorem dX4_goBack_21 : decode cX4_goBack 21 = .ok (.iload_n 1, 1) := by decide +kernel
theorem dX4_goBack_22 : decode cX4_goBack 22 = .ok (.aaload, 1) := by decide +kernel
theorem dX4_goBack_23 : decode cX4_goBack 23 = .ok (.astore_n 2, 1) := by decide +kernel
theorem dX4_goBack_24 : decode cX4_goBack 24 = .ok (.aload_n 2, 1) := by decide +kernel
theorem dX4_goBack_25 : decode cX4_goBack 25 = .ok (.ifnonnull 13, 3) := by decide +kernel
theorem dX4_goBack_28 : decode cX4_goBack 28 = .ok (.new 122, 3) := by decide +kernel
theorem dX4_goBack_31 : decode cX4_goBack 31 = .ok (.dup, 1) := by decide +kernel
theorem dX4_goBack_32 : decode cX4_goBack 32 = .ok (.ldc 158, 2) := by decide +kernel
theorem dX4_goBack_34 : decode cX4_goBack 34 = .ok (.invokespecial 126, 3) := by decide +kernel
theorem dX4_goBack_37 : decode cX4_goBack 37 = .ok (.athrow, 1) := by decide +kernel
theorem dX4_goBack_38 : decode cX4_goBack 38 = .ok (.aload_n 0, 1) := by decide +kernel
theorem dX4_goBack_39 : decode cX4_goBack 39 = .ok (.getfield 33, 3) := by decide +kernel
theorem dX4_goBack_42 : decode cX4_goBack 42 = .ok (.aload_n 0, 1) := by decide +kernel
theorem dX4_goBack_43 : decode cX4_goBack 43 = .ok (.getfield 10, 3) := by decide +kernel
theorem dX4_goBack_46 : decode cX4_goBack 46 = .ok (.invokevirtual 57, 3) := by decide +kernel
theorem dX4_goBack_49 : decode cX4_goBack 49 = .ok (.aload_n 0, 1) := by decide +kernel
theorem dX4_goBack_50 : decode cX4_goBack 50 = .ok (.getfield 10, 3) := by decide +kernel
theorem dX4_goBack_53 : decode cX4_goBack 53 = .ok (.aload_n 2, 1) := by decide +kernel
theorem dX4_goBack_54 : decode cX4_goBack 54 = .ok (.invokevirtual 155, 3) := by decide +kernel
theorem dX4_goBack_57 : decode cX4_goBack 57 = .ok (.aload_n 0, 1) := by decide +kernel
theorem dX4_goBack_58 : decode cX4_goBack 58 = .ok (.getfield 10, 3) := by decide +kernel
theorem dX4_goBack_61 : decode cX4_goBack 61 = .ok (.getfield 99, 3) := by decide +kernel
theorem dX4_goBack_64 : decode cX4_goBack 64 = .ok (.ireturn, 1) := by decide +kernel
set_option maxRecDepth 20000 in
theorem ggX4_undo_X0_latest : GoodIn wsX4_undo wsX0_latest := goodIn_r _ [10, 11, 12, 44, 45] (by decide +kernel) (by decide +kernel)
set_option maxRecDepth 20000 in
theorem gX4_undo_X0_latest : GoodIn wsX4_undo (wsV RX4 160 RX0 yX0_latest wsX0_latest) := goodIn_app (goodIn_of _ (by decide +kernel)) ggX4_undo_X0_latest
set_option maxRecDepth 20000 in
theorem ggX4_undo_X2_copyFrom : GoodIn wsX4_undo wsX2_copyFrom := goodIn_r _ [17, 18, 19, 20, 21, 22, 23, 24, 25, 26, 27, 28, 29, 30, 31, 32, 33, 34, 46, 47, 48, 49, 50, 51, 52, 53, 54, 55, 56, 57, 58] (by decide +kernel) (by decide +kernel)
set_option maxRecDepth 20000 in
theorem gX4_undo_X2_copyFrom : GoodIn wsX4_undo (wsV RX4 155 RX2 yX2_copyFrom wsX2_copyFrom) := goodIn_app (goodIn_of _ (by decide +kernel)) ggX4_undo_X2_copyFrom
set_option maxRecDepth 20000 in
theorem ggX4_undo_X0_forgetLatest : GoodIn wsX4_undo wsX0_forgetLatest := goodIn_r _ [38, 11, 44, 45] (by decide +kernel) (by decide +kernel)
set_option maxRecDepth 20000 in
theorem gX4_undo_X0_forgetLatest : GoodIn wsX4_undo (wsV RX4 166 RX0 yX0_forgetLatest wsX0_forgetLatest) := goodIn_app (goodIn_of _ (by decide +kernel)) ggX4_undo_X0_forgetLatest
theorem dX4_undo_0 : decode cX4_undo 0 = .ok (.aload_n 0, 1) := by decide +kernel
theorem dX4_undo_1 : decode cX4_undo 1 = .ok (.getfield 33, 3) := by decide +kernel
theorem dX4_undo_4 : decode cX4_undo 4 = .ok (.invokevirtual 160, 3) := by decide +kernel
theorem dX4_undo_7 : decode cX4_undo 7 = .ok (.astore_n 1, 1) := by decide +kernel
theorem dX4_undo_8 : decode cX4_undo 8 = .ok (.aload_n 1, 1) := by decide +kernel
theorem dX4_undo_9 : decode cX4_undo 9 = .ok (.ifnonnull 13, 3) := by decide +kernel
theorem dX4_undo_12 : decode cX4_undo 12 = .ok (.new 122, 3) := by decide +kernel
theorem dX4_undo_15 : decode cX4_undo 15 = .ok (.dup, 1) := by decide +kernel
theorem dX4_undo_16 : decode cX4_undo 16 = .ok (.ldc 164, 2) := by decide +kernel
theorem dX4_undo_18 : decode cX4_undo 18 = .ok (.invokespecial 126, 3) := by decide +kernel
theorem dX4_undo_21 : decode cX4_undo 21 = .ok (.athrow, 1) := by decide +kernel
theorem dX4_undo_22 : decode cX4_undo 22 = .ok (.aload_n 0, 1) := by decide +kernel
theorem dX4_undo_23 : decode cX4_undo 23 = .ok (.getfield 10, 3) := by decide +kernel
theorem dX4_undo_26 : decode cX4_undo 26 = .ok (.aload_n 1, 1) := by decide +kernel
theorem dX4_undo_27 : decode cX4_undo 27 = .ok (.invokevirtual 155, 3) := by decide +kernel
theorem dX4_undo_30 : decode cX4_undo 30 = .ok (.aload_n 0, 1) := by decide +kernel
theorem dX4_undo_31 : decode cX4_undo 31 = .ok (.getfield 33, 3) := by decide +kernel
theorem dX4_undo_34 : decode cX4_undo 34 = .ok (.invokevirtual 166, 3) := by decide +kernel
theorem dX4_undo_37 : decode cX4_undo 37 = .ok (.aload_n 0, 1) := by decide +kernel
theorem dX4_undo_38 : decode cX4_undo 38 = .ok (.getfield 33, 3) := by decide +kernel
theorem dX4_undo_41 : decode cX4_undo 41 = .ok (.getfield 169, 3) := by decide +kernel
theorem dX4_undo_44 : decode cX4_undo 44 = .ok (.ireturn, 1) := by decide +kernel
set_option maxRecDepth 20000 in
theorem ggX4_lampOf_X4_isLamp : GoodIn wsX4_lampOf wsX4_isLamp := goodIn_r _ [14] (by decide +kernel) (by decide +kernel)
set_option maxRecDepth 20000 in
theorem gX4_lampOf_X4_isLamp : GoodIn wsX4_lampOf (va_wsS RX4 41 yX4_isLamp wsX4_isLamp) := goodIn_app (goodIn_of _ (by decide +kernel)) ggX4_lampOf_X4_isLamp
set_option maxRecDepth 20000 in
theorem ggX4_lampOf_X2_brightnessOf : GoodIn wsX4_lampOf wsX2_brightnessOf := goodIn_r _ [18] (by decide +kernel) (by decide +kernel)
set_option maxRecDepth 20000 in
theorem gX4_lampOf_X2_brightnessOf : GoodIn wsX4_lampOf (va_wsS RX4 178 yX2_brightnessOf wsX2_brightnessOf) := goodIn_app (goodIn_of _ (by decide +kernel)) ggX4_lampOf_X2_brightnessOf
set_option maxRecDepth 20000 in
theorem ggX4_lampOf_X2_currentWanted : GoodIn wsX4_lampOf wsX2_currentWanted := goodIn_r _ [22, 23, 24, 16, 17, 18, 35, 36, 37, 38, 39, 40, 41, 42, 43, 44, 45, 46, 47] (by decide +kernel) (by decide +kernel)
set_option maxRecDepth 20000 in
theorem gX4_lampOf_X2_currentWanted : GoodIn wsX4_lampOf (wsV RX4 182 RX2 yX2_currentWanted wsX2_currentWanted) := goodIn_app (goodIn_of _ (by decide +kernel)) ggX4_lampOf_X2_currentWanted
set_option maxRecDepth 20000 in
theorem ggX4_lampOf_X2_shown : GoodIn wsX4_lampOf wsX2_shown := goodIn_r _ [28, 29, 35, 36, 37, 38, 39, 40, 41, 42, 43, 44, 45, 46, 47] (by decide +kernel) (by decide +kernel)
set_option maxRecDepth 20000 in
theorem gX4_lampOf_X2_shown : GoodIn wsX4_lampOf (wsV RX4 185 RX2 yX2_shown wsX2_shown) := goodIn_app (goodIn_of _ (by decide +kernel)) ggX4_lampOf_X2_shown
theorem dX4_lampOf_0 : decode cX4_lampOf 0 = .ok (.iload_n 1, 1) := by decide +kernel
theorem dX4_lampOf_1 : decode cX4_lampOf 1 = .ok (.invokestatic 41, 3) := by decide +kernel
theorem dX4_lampOf_4 : decode cX4_lampOf 4 = .ok (.ifCond .ne 13, 3) := by decide +kernel
theorem dX4_lampOf_7 : decode cX4_lampOf 7 = .ok (.new 45, 3) := by decide +kernel
theorem dX4_lampOf_10 : decode cX4_lampOf 10 = .ok (.dup, 1) := by decide +kernel
theorem dX4_lampOf_11 : decode cX4_lampOf 11 = .ok (.ldc 47, 2) := by decide +kernel
theorem dX4_lampOf_13 : decode cX4_lampOf 13 = .ok (.invokespecial 49, 3) := by decide +kernel
theorem dX4_lampOf_16 : decode cX4_lampOf 16 = .ok (.athrow, 1) := by decide +kernel
theorem dX4_lampOf_17 : decode cX4_lampOf 17 = .ok (.iload_n 2, 1) := by decide +kernel
theorem dX4_lampOf_18 : decode cX4_lampOf 18 = .ok (.tableswitch 126 0 7 #[46, 56, 66, 76, 86, 86, 86, 116], 46) := by decide +kernel
theorem dX4_lampOf_64 : decode cX4_lampOf 64 = .ok (.aload_n 0, 1) := by decide +kernel
theorem dX4_lampOf_65 : decode cX4_lampOf 65 = .ok (.getfield 10, 3) := by decide +kernel
theorem dX4_lampOf_68 : decode cX4_lampOf 68 = .ok (.getfield 61, 3) := by decide +kernel
theorem dX4_lampOf_71 : decode cX4_lampOf 71 = .ok (.iload_n 1, 1) := by decide +kernel
theorem dX4_lampOf_72 : decode cX4_lampOf 72 = .ok (.iaload, 1) := by decide +kernel
theorem dX4_lampOf_73 : decode cX4_lampOf 73 = .ok (.ireturn, 1) := by decide +kernel
theorem dX4_lampOf_74 : decode cX4_lampOf 74 = .ok (.aload_n 0, 1) := by decide +kernel
theorem dX4_lampOf_75 : decode cX4_lampOf 75 = .ok (.getfield 10, 3) := by decide +kernel
theorem dX4_lampOf_78 : decode cX4_lampOf 78 = .ok (.getfield 67, 3) := by decide +kernel
theorem dX4_lampOf_81 : decode cX4_lampOf 81 = .ok (.iload_n 1, 1) := by decide +kernel
theorem dX4_lampOf_82 : decode cX4_lampOf 82 = .ok (.iaload, 1) := by decide +kernel
theorem dX4_lampOf_83 : decode cX4_lampOf 83 = .ok (.ireturn, 1) := by decide +kernel
theorem dX4_lampOf_84 : decode cX4_lampOf 84 = .ok (.aload_n 0, 1) := by decide +kernel
theorem dX4_lampOf_85 : decode cX4_lampOf 85 = .ok (.getfield 10, 3) := by decide +kernel
theorem dX4_lampOf_88 : decode cX4_lampOf 88 = .ok (.getfield 172, 3) := by decide +kernel
theorem dX4_lampOf_91 : decode cX4_lampOf 91 = .ok (.iload_n 1, 1) := by decide +kernel
theorem dX4_lampOf_92 : decode cX4_lampOf 92 = .ok (.iaload, 1) := by decide +kernel
theorem dX4_lampOf_93 : decode cX4_lampOf 93 = .ok (.ireturn, 1) := by decide +kernel
theorem dX4_lampOf_94 : decode cX4_lampOf 94 = .ok (.aload_n 0, 1) := by decide +kernel
theorem dX4_lampOf_95 : decode cX4_lampOf 95 = .ok (.getfield 10, 3) := by decide +kernel
theorem dX4_lampOf_98 : decode cX4_lampOf 98 = .ok (.getfield 175, 3) := by decide +kernel
theorem dX4_lampOf_101 : decode cX4_lampOf 101 = .ok (.iload_n 1, 1) := by decide +kernel
theorem dX4_lampOf_102 : decode cX4_lampOf 102 = .ok (.iaload, 1) := by decide +kernel
theorem dX4_lampOf_103 : decode cX4_lampOf 103 = .ok (.ireturn, 1) := by decide +kernel
theorem dX4_lampOf_104 : decode cX4_lampOf 104 = .ok (.aload_n 0, 1) := by decide +kernel
theorem dX4_lampOf_105 : decode cX4_lampOf 105 = .ok (.getfield 10, 3) := by decide +kernel
theorem dX4_lampOf_108 : decode cX4_lampOf 108 = .ok (.aload_n 0, 1) := by decide +kernel
theorem dX4_lampOf_109 : decode cX4_lampOf 109 = .ok (.getfield 10, 3) := by decide +kernel
theorem dX4_lampOf_112 : decode cX4_lampOf 112 = .ok (.getfield 175, 3) := by decide +kernel
theorem dX4_lampOf_115 : decode cX4_lampOf 115 = .ok (.iload_n 1, 1) := by decide +kernel
theorem dX4_lampOf_116 : decode cX4_lampOf 116 = .ok (.iaload, 1) := by decide +kernel
theorem dX4_lampOf_117 : decode cX4_lampOf 117 = .ok (.iload_n 2, 1) := by decide +kernel
theorem dX4_lampOf_118 : decode cX4_lampOf 118 = .ok (.iconst 4, 1) := by decide +kernel
theorem dX4_lampOf_119 : decode cX4_lampOf 119 = .ok (.isub, 1) := by decide +kernel
theorem dX4_lampOf_120 : decode cX4_lampOf 120 = .ok (.invokestatic 178, 3) := by decide +kernel
theorem dX4_lampOf_123 : decode cX4_lampOf 123 = .ok (.aload_n 0, 1) := by decide +kernel
theorem dX4_lampOf_124 : decode cX4_lampOf 124 = .ok (.getfield 10, 3) := by decide +kernel
theorem dX4_lampOf_127 : decode cX4_lampOf 127 = .ok (.invokevirtual 182, 3) := by decide +kernel
theorem dX4_lampOf_130 : decode cX4_lampOf 130 = .ok (.invokevirtual 185, 3) := by decide +kernel
theorem dX4_lampOf_133 : decode cX4_lampOf 133 = .ok (.ireturn, 1) := by decide +kernel
theorem dX4_lampOf_134 : decode cX4_lampOf 134 = .ok (.aload_n 0, 1) := by decide +kernel
theorem dX4_lampOf_135 : decode cX4_lampOf 135 = .ok (.getfield 10, 3) := by decide +kernel
theorem dX4_lampOf_138 : decode cX4_lampOf 138 = .ok (.getfield 188, 3) := by decide +kernel
theorem dX4_lampOf_141 : decode cX4_lampOf 141 = .ok (.iload_n 1, 1) := by decide +kernel
theorem dX4_lampOf_142 : decode cX4_lampOf 142 = .ok (.iaload, 1) := by decide +kernel
theorem dX4_lampOf_143 : decode cX4_lampOf 143 = .ok (.ireturn, 1) := by decide +kernel
theorem dX4_lampOf_144 : decode cX4_lampOf 144 = .ok (.new 52, 3) := by decide +kernel
theorem dX4_lampOf_147 : decode cX4_lampOf 147 = .ok (.dup, 1) := by decide +kernel
theorem dX4_lampOf_148 : decode cX4_lampOf 148 = .ok (.ldc 191, 2) := by decide +kernel
theorem dX4_lampOf_150 : decode cX4_lampOf 150 = .ok (.invokespecial 56, 3) := by decide +kernel
theorem dX4_lampOf_153 : decode cX4_lampOf 153 = .ok (.athrow, 1) := by decide +kernel
theorem dX4_pulseAt_0 : decode cX4_pulseAt 0 = .ok (.iload_n 1, 1) := by decide +kernel
theorem dX4_pulseAt_1 : decode cX4_pulseAt 1 = .ok (.ifCond .ge 13, 3) := by decide +kernel
theorem dX4_pulseAt_4 : decode cX4_pulseAt 4 = .ok (.new 52, 3) := by decide +kernel
theorem dX4_pulseAt_7 : decode cX4_pulseAt 7 = .ok (.dup, 1) := by decide +kernel
theorem dX4_pulseAt_8 : decode cX4_pulseAt 8 = .ok (.ldc 193, 2) := by decide +kernel
theorem dX4_pulseAt_10 : decode cX4_pulseAt 10 = .ok (.invokespecial 56, 3) := by decide +kernel
theorem dX4_pulseAt_13 : decode cX4_pulseAt 13 = .ok (.athrow, 1) := by decide +kernel
theorem dX4_pulseAt_14 : decode cX4_pulseAt 14 = .ok (.iload_n 1, 1) := by decide +kernel
theorem dX4_pulseAt_15 : decode cX4_pulseAt 15 = .ok (.aload_n 0, 1) := by decide +kernel
theorem dX4_pulseAt_16 : decode cX4_pulseAt 16 = .ok (.getfield 10, 3) := by decide +kernel
theorem dX4_pulseAt_19 : decode cX4_pulseAt 19 = .ok (.getfield 99, 3) := by decide +kernel
theorem dX4_pulseAt_22 : decode cX4_pulseAt 22 = .ok (.if_icmp .ge 9, 3) := by decide +kernel
theorem dX4_pulseAt_25 : decode cX4_pulseAt 25 = .ok (.iload_n 1, 1) := by decide +kernel
theorem dX4_pulseAt_26 : decode cX4_pulseAt 26 = .ok (.bipush 120, 2) := by decide +kernel
theorem dX4_pulseAt_28 : decode cX4_pulseAt 28 = .ok (.if_icmp .lt 5, 3) := by decide +kernel
theorem dX4_pulseAt_31 : decode cX4_pulseAt 31 = .ok (.iconst (-1), 1) := by decide +kernel
theorem dX4_pulseAt_32 : decode cX4_pulseAt 32 = .ok (.ireturn, 1) := by decide +kernel
theorem dX4_pulseAt_33 : decode cX4_pulseAt 33 = .ok (.aload_n 0, 1) := by decide +kernel
theorem dX4_pulseAt_34 : decode cX4_pulseAt 34 = .ok (.getfield 10, 3) := by decide +kernel
theorem dX4_pulseAt_37 : decode cX4_pulseAt 37 = .ok (.getfield 195, 3) := by decide +kernel
theorem dX4_pulseAt_40 : decode cX4_pulseAt 40 = .ok (.iload_n 1, 1) := by decide +kernel
theorem dX4_pulseAt_41 : decode cX4_pulseAt 41 = .ok (.iaload, 1) := by decide +kernel
theorem dX4_pulseAt_42 : decode cX4_pulseAt 42 = .ok (.ireturn, 1) := by decide +kernel
set_option maxRecDepth 20000 in
theorem ggX4_count_X2_currentWanted : GoodIn wsX4_count wsX2_currentWanted := goodIn_r _ [16, 17, 18, 19, 15, 20, 40, 41, 42, 43, 44, 45, 46, 47, 48, 49, 50, 51, 52] (by decide +kernel) (by decide +kernel)
set_option maxRecDepth 20000 in
theorem gX4_count_X2_currentWanted : GoodIn wsX4_count (wsV RX4 182 RX2 yX2_currentWanted wsX2_currentWanted) := goodIn_app (goodIn_of _ (by decide +kernel)) ggX4_count_X2_currentWanted
set_option maxRecDepth 20000 in
theorem ggX4_count_X2_shownTogether : GoodIn wsX4_count wsX2_shownTogether := goodIn_r _ [24, 17, 25, 13, 14, 15, 16, 18, 19, 20, 26, 27, 28, 29, 30, 40, 41, 42, 43, 44, 45, 46, 47, 48, 49, 50, 51, 52] (by decide +kernel) (by decide +kernel)
set_option maxRecDepth 20000 in
theorem gX4_count_X2_shownTogether : GoodIn wsX4_count (wsV RX4 207 RX2 yX2_shownTogether wsX2_shownTogether) := goodIn_app (goodIn_of _ (by decide +kernel)) ggX4_count_X2_shownTogether
set_option maxRecDepth 20000 in
theorem ggX4_count_X2_lampsThatShine : GoodIn wsX4_count wsX2_lampsThatShine := goodIn_r _ [34, 17, 40, 41, 42, 43, 44, 45, 46, 47, 48, 49, 50, 51, 52] (by decide +kernel) (by decide +kernel)
set_option maxRecDepth 20000 in
theorem gX4_count_X2_lampsThatShine : GoodIn wsX4_count (wsV RX4 210 RX2 yX2_lampsThatShine wsX2_lampsThatShine) := goodIn_app (goodIn_of _ (by decide +kernel)) ggX4_count_X2_lampsThatShine
theorem dX4_count_0 : decode cX4_count 0 = .ok (.iload_n 1, 1) := by decide +kernel
theorem dX4_count_1 : decode cX4_count 1 = .ok (.tableswitch 171 0 10 #[59, 67, 75, 107, 115, 123, 131, 139, 147, 155, 163], 59) := by decide +kernel
theorem dX4_count_60 : decode cX4_count 60 = .ok (.aload_n 0, 1) := by decide +kernel
theorem dX4_count_61 : decode cX4_count 61 = .ok (.getfield 10, 3) := by decide +kernel
theorem dX4_count_64 : decode cX4_count 64 = .ok (.getfield 99, 3) := by decide +kernel
theorem dX4_count_67 : decode cX4_count 67 = .ok (.ireturn, 1) := by decide +kernel
theorem dX4_count_68 : decode cX4_count 68 = .ok (.aload_n 0, 1) := by decide +kernel
theorem dX4_count_69 : decode cX4_count 69 = .ok (.getfield 10, 3) := by decide +kernel
theorem dX4_count_72 : decode cX4_count 72 = .ok (.getfield 198, 3) := by decide +kernel
theorem dX4_count_75 : decode cX4_count 75 = .ok (.ireturn, 1) := by decide +kernel
theorem dX4_count_76 : decode cX4_count 76 = .ok (.aload_n 0, 1) := by decide +kernel
theorem dX4_count_77 : decode cX4_count 77 = .ok (.getfield 10, 3) := by decide +kernel
theorem dX4_count_80 : decode cX4_count 80 = .ok (.getfield 201, 3) := by decide +kernel
theorem dX4_count_83 : decode cX4_count 83 = .ok (.aload_n 0, 1) := by decide +kernel
theorem dX4_count_84 : decode cX4_count 84 = .ok (.getfield 10, 3) := by decide +kernel
theorem dX4_count_87 : decode cX4_count 87 = .ok (.getfield 204, 3) := by decide +kernel
theorem dX4_count_90 : decode cX4_count 90 = .ok (.iadd, 1) := by decide +kernel
theorem dX4_count_91 : decode cX4_count 91 = .ok (.aload_n 0, 1) := by decide +kernel
theorem dX4_count_92 : decode cX4_count 92 = .ok (.getfield 10, 3) := by decide +kernel
theorem dX4_count_95 : decode cX4_count 95 = .ok (.getfield 114, 3) := by decide +kernel
theorem dX4_count_98 : decode cX4_count 98 = .ok (.iadd, 1) := by decide +kernel
theorem dX4_count_99 : decode cX4_count 99 = .ok (.aload_n 0, 1) := by decide +kernel
theorem dX4_count_100 : decode cX4_count 100 = .ok (.getfield 10, 3) := by decide +kernel
theorem dX4_count_103 : decode cX4_count 103 = .ok (.getfield 99, 3) := by decide +kernel
theorem dX4_count_106 : decode cX4_count 106 = .ok (.iadd, 1) := by decide +kernel
theorem dX4_count_107 : decode cX4_count 107 = .ok (.ireturn, 1) := by decide +kernel
theorem dX4_count_108 : decode cX4_count 108 = .ok (.aload_n 0, 1) := by decide +kernel
theorem dX4_count_109 : decode cX4_count 109 = .ok (.getfield 10, 3) := by decide +kernel
theorem dX4_count_112 : decode cX4_count 112 = .ok (.getfield 201, 3) := by decide +kernel
theorem dX4_count_115 : decode cX4_count 115 = .ok (.ireturn, 1) := by decide +kernel
theorem dX4_count_116 : decode cX4_count 116 = .ok (.aload_n 0, 1) := by decide +kernel
theorem dX4_count_117 : decode cX4_count 117 = .ok (.getfield 10, 3) := by decide +kernel
theorem dX4_count_120 : decode cX4_count 120 = .ok (.getfield 204, 3) := by decide +kernel
theorem dX4_count_123 : decode cX4_count 123 = .ok (.ireturn, 1) := by decide +kernel
theorem dX4_count_124 : decode cX4_count 124 = .ok (.aload_n 0, 1) := by decide +kernel
theorem dX4_count_125 : decode cX4_count 125 = .ok (.getfield 10, 3) := by decide +kernel
theorem dX4_count_128 : decode cX4_count 128 = .ok (.getfield 114, 3) := by decide +kernel
theorem dX4_count_131 : decode cX4_count 131 = .ok (.ireturn, 1) := by decide +kernel
theorem dX4_count_132 : decode cX4_count 132 = .ok (.aload_n 0, 1) := by decide +kernel
theorem dX4_count_133 : decode cX4_count 133 = .ok (.getfield 10, 3) := by decide +kernel
theorem dX4_count_136 : decode cX4_count 136 = .ok (.invokevirtual 182, 3) := by decide +kernel
theorem dX4_count_139 : decode cX4_count 139 = .ok (.ireturn, 1) := by decide +kernel
theorem dX4_count_140 : decode cX4_count 140 = .ok (.aload_n 0, 1) := by decide +kernel
theorem dX4_count_141 : decode cX4_count 141 = .ok (.getfield 10, 3) := by decide +kernel
theorem dX4_count_144 : decode cX4_count 144 = .ok (.invokevirtual 207, 3) := by decide +kernel
theorem dX4_count_147 : decode cX4_count 147 = .ok (.ireturn, 1) := by decide +kernel
theorem dX4_count_148 : decode cX4_count 148 = .ok (.aload_n 0, 1) := by decide +kernel
theorem dX4_count_149 : decode cX4_count 149 = .ok (.getfield 10, 3) := by decide +kernel
theorem dX4_count_152 : decode cX4_count 152 = .ok (.invokevirtual 210, 3) := by decide +kernel
theorem dX4_count_155 : decode cX4_count 155 = .ok (.ireturn, 1) := by decide +kernel
theorem dX4_count_156 : decode cX4_count 156 = .ok (.aload_n 0, 1) := by decide +kernel
theorem dX4_count_157 : decode cX4_count 157 = .ok (.getfield 10, 3) := by decide +kernel
theorem dX4_count_160 : decode cX4_count 160 = .ok (.getfield 213, 3) := by decide +kernel
theorem dX4_count_163 : decode cX4_count 163 = .ok (.ireturn, 1) := by decide +kernel
theorem dX4_count_164 : decode cX4_count 164 = .ok (.aload_n 0, 1) := by decide +kernel
theorem dX4_count_165 : decode cX4_count 165 = .ok (.getfield 33, 3) := by decide +kernel
theorem dX4_count_168 : decode cX4_count 168 = .ok (.getfield 169, 3) := by decide +kernel
theorem dX4_count_171 : decode cX4_count 171 = .ok (.ireturn, 1) := by decide +kernel
theorem dX4_count_172 : decode cX4_count 172 = .ok (.new 52, 3) := by decide +kernel
theorem dX4_count_175 : decode cX4_count 175 = .ok (.dup, 1) := by decide +kernel
theorem dX4_count_176 : decode cX4_count 176 = .ok (.ldc 216, 2) := by decide +kernel
theorem dX4_count_178 : decode cX4_count 178 = .ok (.invokespecial 56, 3) := by decide +kernel
theorem dX4_count_181 : decode cX4_count 181 = .ok (.athrow, 1) := by decide +kernel
set_option maxRecDepth 20000 in
theorem ggX4_setting_X4_isSetting : GoodIn wsX4_setting wsX4_isSetting := goodIn_r _ [8] (by decide +kernel) (by decide +kernel)
set_option maxRecDepth 20000 in
theorem gX4_setting_X4_isSetting : GoodIn wsX4_setting (va_wsS RX4 70 yX4_isSetting wsX4_isSetting) := goodIn_app (goodIn_of _ (by decide +kernel)) ggX4_setting_X4_isSetting
theorem dX4_setting_0 : decode cX4_setting 0 = .ok (.iload_n 1, 1) := by decide +kernel
theorem dX4_setting_1 : decode cX4_setting 1 = .ok (.invokestatic 70, 3) := by decide +kernel
theorem dX4_setting_4 : decode cX4_setting 4 = .ok (.ifCond .ne 13, 3) := by decide +kernel
theorem dX4_setting_7 : decode cX4_setting 7 = .ok (.new 45, 3) := by decide +kernel
theorem dX4_setting_10 : decode cX4_setting 10 = .ok (.dup, 1) := by decide +kernel
theorem dX4_setting_11 : decode cX4_setting 11 = .ok (.ldc 73, 2) := by decide +kernel
theorem dX4_setting_13 : decode cX4_setting 13 = .ok (.invokespecial 49, 3) := by decide +kernel
theorem dX4_setting_16 : decode cX4_setting 16 = .ok (.athrow, 1) := by decide +kernel
theorem dX4_setting_17 : decode cX4_setting 17 = .ok (.aload_n 0, 1) := by decide +kernel
theorem dX4_setting_18 : decode cX4_setting 18 = .ok (.getfield 10, 3) := by decide +kernel
theorem dX4_setting_21 : decode cX4_setting 21 = .ok (.getfield 83, 3) := by decide +kernel
theorem dX4_setting_24 : decode cX4_setting 24 = .ok (.iload_n 1, 1) := by decide +kernel
theorem dX4_setting_25 : decode cX4_setting 25 = .ok (.iaload, 1) := by decide +kernel
theorem dX4_setting_26 : decode cX4_setting 26 = .ok (.ireturn, 1) := by decide +kernel
set_option maxRecDepth 20000 in
theorem ggX4_ifGap_X4_isLamp : GoodIn wsX4_ifGap wsX4_isLamp := goodIn_r _ [11] (by decide +kernel) (by decide +kernel)
set_option maxRecDepth 20000 in
theorem gX4_ifGap_X4_isLamp : GoodIn wsX4_ifGap (va_wsS RX4 41 yX4_isLamp wsX4_isLamp) := goodIn_app (goodIn_of _ (by decide +kernel)) ggX4_ifGap_X4_isLamp
set_option maxRecDepth 20000 in
theorem ggX4_ifGap_X2_wordByPlace : GoodIn wsX4_ifGap wsX2_wordByPlace := goodIn_r _ [16, 17, 18, 19, 20, 21, 22, 15, 23, 24, 25, 26, 27, 28, 29, 30, 31, 32, 33, 34, 35, 36, 37, 38, 39, 40, 41, 42, 43, 44, 45, 46, 47, 48, 96, 97, 98, 99, 100, 101, 102, 103, 104, 105, 106, 107, 108] (by decide +kernel) (by decide +kernel)
set_option maxRecDepth 20000 in
theorem gX4_ifGap_X2_wordByPlace : GoodIn wsX4_ifGap (wsV RX4 220 RX2 yX2_wordByPlace wsX2_wordByPlace) := goodIn_app (goodIn_of _ (by decide +kernel)) ggX4_ifGap_X2_wordByPlace
set_option maxRecDepth 20000 in
theorem ggX4_ifGap_X1_goThrough : GoodIn wsX4_ifGap wsX1_goThrough := goodIn_r _ [53, 54, 55, 56, 57, 58, 59, 60, 61, 62, 63, 64, 65, 66, 67, 68, 69, 70, 71, 52, 72, 73, 35, 15, 36, 74, 26, 27, 28, 24, 75, 76, 77, 78, 79, 80, 81, 82, 83, 43, 44, 45, 41, 84, 38, 39, 40, 42, 46, 47, 48, 96, 97, 98, 99, 100, 101, 102, 103, 104, 105, 106, 107, 108, 90, 91, 92, 93, 94, 95] (by decide +kernel) (by decide +kernel)
set_option maxRecDepth 20000 in
theorem gX4_ifGap_X1_goThrough : GoodIn wsX4_ifGap (wsV RX4 223 RX1 yX1_goThrough wsX1_goThrough) := goodIn_app (goodIn_of _ (by decide +kernel)) ggX4_ifGap_X1_goThrough
theorem dX4_ifGap_0 : decode cX4_ifGap 0 = .ok (.iload_n 1, 1) := by decide +kernel
theorem dX4_ifGap_1 : decode cX4_ifGap 1 = .ok (.invokestatic 41, 3) := by decide +kernel
theorem dX4_ifGap_4 : decode cX4_ifGap 4 = .ok (.ifCond .ne 13, 3) := by decide +kernel
theorem dX4_ifGap_7 : decode cX4_ifGap 7 = .ok (.new 45, 3) := by decide +kernel
theorem dX4_ifGap_10 : decode cX4_ifGap 10 = .ok (.dup, 1) := by decide +kernel
theorem dX4_ifGap_11 : decode cX4_ifGap 11 = .ok (.ldc 47, 2) := by decide +kernel
theorem dX4_ifGap_13 : decode cX4_ifGap 13 = .ok (.invokespecial 49, 3) := by decide +kernel
theorem dX4_ifGap_16 : decode cX4_ifGap 16 = .ok (.athrow, 1) := by decide +kernel
theorem dX4_ifGap_17 : decode cX4_ifGap 17 = .ok (.iload_n 2, 1) := by decide +kernel
theorem dX4_ifGap_18 : decode cX4_ifGap 18 = .ok (.ifCond .lt 8, 3) := by decide +kernel
theorem dX4_ifGap_21 : decode cX4_ifGap 21 = .ok (.iload_n 2, 1) := by decide +kernel
theorem dX4_ifGap_22 : decode cX4_ifGap 22 = .ok (.iconst 1, 1) := by decide +kernel
theorem dX4_ifGap_23 : decode cX4_ifGap 23 = .ok (.if_icmp .le 13, 3) := by decide +kernel
theorem dX4_ifGap_26 : decode cX4_ifGap 26 = .ok (.new 52, 3) := by decide +kernel
theorem dX4_ifGap_29 : decode cX4_ifGap 29 = .ok (.dup, 1) := by decide +kernel
theorem dX4_ifGap_30 : decode cX4_ifGap 30 = .ok (.ldc 218, 2) := by decide +kernel
theorem dX4_ifGap_32 : decode cX4_ifGap 32 = .ok (.invokespecial 56, 3) := by decide +kernel
theorem dX4_ifGap_35 : decode cX4_ifGap 35 = .ok (.athrow, 1) := by decide +kernel
theorem dX4_ifGap_36 : decode cX4_ifGap 36 = .ok (.iload_n 2, 1) := by decide +kernel
theorem dX4_ifGap_37 : decode cX4_ifGap 37 = .ok (.iconst 1, 1) := by decide +kernel
theorem dX4_ifGap_38 : decode cX4_ifGap 38 = .ok (.if_icmp .ne 12, 3) := by decide +kernel
theorem dX4_ifGap_41 : decode cX4_ifGap 41 = .ok (.aload_n 0, 1) := by decide +kernel
theorem dX4_ifGap_42 : decode cX4_ifGap 42 = .ok (.getfield 10, 3) := by decide +kernel
theorem dX4_ifGap_45 : decode cX4_ifGap 45 = .ok (.iload_n 1, 1) := by decide +kernel
theorem dX4_ifGap_46 : decode cX4_ifGap 46 = .ok (.invokevirtual 220, 3) := by decide +kernel
theorem dX4_ifGap_49 : decode cX4_ifGap 49 = .ok (.ireturn, 1) := by decide +kernel
theorem dX4_ifGap_50 : decode cX4_ifGap 50 = .ok (.aload_n 0, 1) := by decide +kernel
theorem dX4_ifGap_51 : decode cX4_ifGap 51 = .ok (.getfield 19, 3) := by decide +kernel
theorem dX4_ifGap_54 : decode cX4_ifGap 54 = .ok (.aload_n 0, 1) := by decide +kernel
theorem dX4_ifGap_55 : decode cX4_ifGap 55 = .ok (.getfield 10, 3) := by decide +kernel
theorem dX4_ifGap_58 : decode cX4_ifGap 58 = .ok (.invokevirtual 223, 3) := by decide +kernel
theorem dX4_ifGap_61 : decode cX4_ifGap 61 = .ok (.aload_n 0, 1) := by decide +kernel
theorem dX4_ifGap_62 : decode cX4_ifGap 62 = .ok (.getfield 19, 3) := by decide +kernel
theorem dX4_ifGap_65 : decode cX4_ifGap 65 = .ok (.getfield 226, 3) := by decide +kernel
theorem dX4_ifGap_68 : decode cX4_ifGap 68 = .ok (.iload_n 1, 1) := by decide +kernel
theorem dX4_ifGap_69 : decode cX4_ifGap 69 = .ok (.iaload, 1) := by decide +kernel
theorem dX4_ifGap_70 : decode cX4_ifGap 70 = .ok (.ireturn, 1) := by decide +kernel
set_option maxRecDepth 20000 in
theorem ggX4_wrong_X4_isWord : GoodIn wsX4_wrong wsX4_isWord := goodIn_r _ [7] (by decide +kernel) (by decide +kernel)
set_option maxRecDepth 20000 in
theorem gX4_wrong_X4_isWord : GoodIn wsX4_wrong (va_wsS RX4 103 yX4_isWord wsX4_isWord) := goodIn_app (goodIn_of _ (by decide +kernel)) ggX4_wrong_X4_isWord
set_option maxRecDepth 20000 in
theorem ggX4_wrong_X2_wrongWith : GoodIn wsX4_wrong wsX2_wrongWith := goodIn_r _ [12, 13, 14, 15, 16, 17, 11, 18, 19, 20, 21, 22, 23, 24, 25, 26, 27, 28, 29, 30, 31, 32, 33, 34, 40, 41, 42, 43, 44, 45, 46, 47, 48, 49, 50, 51, 52] (by decide +kernel) (by decide +kernel)
set_option maxRecDepth 20000 in
theorem gX4_wrong_X2_wrongWith : GoodIn wsX4_wrong (wsV RX4 229 RX2 yX2_wrongWith wsX2_wrongWith) := goodIn_app (goodIn_of _ (by decide +kernel)) ggX4_wrong_X2_wrongWith
theorem dX4_wrong_0 : decode cX4_wrong 0 = .ok (.iload_n 1, 1) := by decide +kernel
theorem dX4_wrong_1 : decode cX4_wrong 1 = .ok (.invokestatic 103, 3) := by decide +kernel
theorem dX4_wrong_4 : decode cX4_wrong 4 = .ok (.ifCond .ne 13, 3) := by decide +kernel
theorem dX4_wrong_7 : decode cX4_wrong 7 = .ok (.new 52, 3) := by decide +kernel
theorem dX4_wrong_10 : decode cX4_wrong 10 = .ok (.dup, 1) := by decide +kernel
theorem dX4_wrong_11 : decode cX4_wrong 11 = .ok (.ldc 106, 2) := by decide +kernel
theorem dX4_wrong_13 : decode cX4_wrong 13 = .ok (.invokespecial 56, 3) := by decide +kernel
theorem dX4_wrong_16 : decode cX4_wrong 16 = .ok (.athrow, 1) := by decide +kernel
theorem dX4_wrong_17 : decode cX4_wrong 17 = .ok (.aload_n 0, 1) := by decide +kernel
theorem dX4_wrong_18 : decode cX4_wrong 18 = .ok (.getfield 10, 3) := by decide +kernel
theorem dX4_wrong_21 : decode cX4_wrong 21 = .ok (.iload_n 1, 1) := by decide +kernel
theorem dX4_wrong_22 : decode cX4_wrong 22 = .ok (.iconst (-1), 1) := by decide +kernel
theorem dX4_wrong_23 : decode cX4_wrong 23 = .ok (.iconst 0, 1) := by decide +kernel
theorem dX4_wrong_24 : decode cX4_wrong 24 = .ok (.invokevirtual 229, 3) := by decide +kernel
theorem dX4_wrong_27 : decode cX4_wrong 27 = .ok (.ireturn, 1) := by decide +kernel
set_option maxRecDepth 20000 in
theorem ggX4_bears_X4_isLamp : GoodIn wsX4_bears wsX4_isLamp := goodIn_r _ [7] (by decide +kernel) (by decide +kernel)
set_option maxRecDepth 20000 in
theorem gX4_bears_X4_isLamp : GoodIn wsX4_bears (va_wsS RX4 41 yX4_isLamp wsX4_isLamp) := goodIn_app (goodIn_of _ (by decide +kernel)) ggX4_bears_X4_isLamp
set_option maxRecDepth 20000 in
theorem ggX4_bears_X2_wrongWith : GoodIn wsX4_bears wsX2_wrongWith := goodIn_r _ [12, 13, 14, 15, 16, 17, 11, 18, 19, 20, 21, 22, 23, 24, 25, 26, 27, 28, 29, 30, 31, 32, 33, 34, 40, 41, 42, 43, 44, 45, 46, 47, 48, 49, 50, 51, 52] (by decide +kernel) (by decide +kernel)
set_option maxRecDepth 20000 in
theorem gX4_bears_X2_wrongWith : GoodIn wsX4_bears (wsV RX4 229 RX2 yX2_wrongWith wsX2_wrongWith) := goodIn_app (goodIn_of _ (by decide +kernel)) ggX4_bears_X2_wrongWith
theorem dX4_bears_0 : decode cX4_bears 0 = .ok (.iload_n 1, 1) := by decide +kernel
theorem dX4_bears_1 : decode cX4_bears 1 = .ok (.invokestatic 41, 3) := by decide +kernel
theorem dX4_bears_4 : decode cX4_bears 4 = .ok (.ifCond .ne 13, 3) := by decide +kernel
theorem dX4_bears_7 : decode cX4_bears 7 = .ok (.new 45, 3) := by decide +kernel
theorem dX4_bears_10 : decode cX4_bears 10 = .ok (.dup, 1) := by decide +kernel
theorem dX4_bears_11 : decode cX4_bears 11 = .ok (.ldc 47, 2) := by decide +kernel
theorem dX4_bears_13 : decode cX4_bears 13 = .ok (.invokespecial 49, 3) := by decide +kernel
theorem dX4_bears_16 : decode cX4_bears 16 = .ok (.athrow, 1) := by decide +kernel
theorem dX4_bears_17 : decode cX4_bears 17 = .ok (.bipush 6, 2) := by decide +kernel
theorem dX4_bears_19 : decode cX4_bears 19 = .ok (.istore_n 2, 1) := by decide +kernel
theorem dX4_bears_20 : decode cX4_bears 20 = .ok (.iload_n 2, 1) := by decide +kernel
theorem dX4_bears_21 : decode cX4_bears 21 = .ok (.ifCond .lt 41, 3) := by decide +kernel
theorem dX4_bears_24 : decode cX4_bears 24 = .ok (.aload_n 0, 1) := by decide +kernel
theorem dX4_bears_25 : decode cX4_bears 25 = .ok (.getfield 10, 3) := by decide +kernel
theorem dX4_bears_28 : decode cX4_bears 28 = .ok (.sipush 1365, 3) := by decide +kernel
theorem dX4_bears_31 : decode cX4_bears 31 = .ok (.iload_n 1, 1) := by decide +kernel
theorem dX4_bears_32 : decode cX4_bears 32 = .ok (.iload_n 2, 1) := by decide +kernel
theorem dX4_bears_33 : decode cX4_bears 33 = .ok (.invokevirtual 229, 3) := by decide +kernel
theorem dX4_bears_36 : decode cX4_bears 36 = .ok (.ifCond .ne 20, 3) := by decide +kernel
theorem dX4_bears_39 : decode cX4_bears 39 = .ok (.aload_n 0, 1) := by decide +kernel
theorem dX4_bears_40 : decode cX4_bears 40 = .ok (.getfield 10, 3) := by decide +kernel
theorem dX4_bears_43 : decode cX4_bears 43 = .ok (.sipush 2730, 3) := by decide +kernel
theorem dX4_bears_46 : decode cX4_bears 46 = .ok (.iload_n 1, 1) := by decide +kernel
theorem dX4_bears_47 : decode cX4_bears 47 = .ok (.iload_n 2, 1) := by decide +kernel
theorem dX4_bears_48 : decode cX4_bears 48 = .ok (.invokevirtual 229, 3) := by decide +kernel
theorem dX4_bears_51 : decode cX4_bears 51 = .ok (.ifCond .ne 5, 3) := by decide +kernel
theorem dX4_bears_54 : decode cX4_bears 54 = .ok (.iload_n 2, 1) := by decide +kernel
theorem dX4_bears_55 : decode cX4_bears 55 = .ok (.ireturn, 1) := by decide +kernel
theorem dX4_bears_56 : decode cX4_bears 56 = .ok (.iinc 2 (-1), 3) := by decide +kernel
theorem dX4_bears_59 : decode cX4_bears 59 = .ok (.goto (-39), 3) := by decide +kernel
theorem dX4_bears_62 : decode cX4_bears 62 = .ok (.iconst (-1), 1) := by decide +kernel
theorem dX4_bears_63 : decode cX4_bears 63 = .ok (.ireturn, 1) := by decide +kernel
theorem dX4_brokenAt_0 : decode cX4_brokenAt 0 = .ok (.iconst 1, 1) := by decide +kernel
theorem dX4_brokenAt_1 : decode cX4_brokenAt 1 = .ok (.istore_n 1, 1) := by decide +kernel
theorem dX4_brokenAt_2 : decode cX4_brokenAt 2 = .ok (.iload_n 1, 1) := by decide +kernel
theorem dX4_brokenAt_3 : decode cX4_brokenAt 3 = .ok (.bipush 8, 2) := by decide +kernel
theorem dX4_brokenAt_5 : decode cX4_brokenAt 5 = .ok (.if_icmp .ge 26, 3) := by decide +kernel
theorem dX4_brokenAt_8 : decode cX4_brokenAt 8 = .ok (.aload_n 0, 1) := by decide +kernel
theorem dX4_brokenAt_9 : decode cX4_brokenAt 9 = .ok (.getfield 10, 3) := by decide +kernel
theorem dX4_brokenAt_12 : decode cX4_brokenAt 12 = .ok (.getfield 61, 3) := by decide +kernel
theorem dX4_brokenAt_15 : decode cX4_brokenAt 15 = .ok (.iload_n 1, 1) := by decide +kernel
theorem dX4_brokenAt_16 : decode cX4_brokenAt 16 = .ok (.iconst 1, 1) := by decide +kernel
theorem dX4_brokenAt_17 : decode cX4_brokenAt 17 = .ok (.isub, 1) := by decide +kernel
theorem dX4_brokenAt_18 : decode cX4_brokenAt 18 = .ok (.iaload, 1) := by decide +kernel
theorem dX4_brokenAt_19 : decode cX4_brokenAt 19 = .ok (.iconst 2, 1) := by decide +kernel
theorem dX4_brokenAt_20 : decode cX4_brokenAt 20 = .ok (.if_icmp .ne 5, 3) := by decide +kernel
theorem dX4_brokenAt_23 : decode cX4_brokenAt 23 = .ok (.iload_n 1, 1) := by decide +kernel
theorem dX4_brokenAt_24 : decode cX4_brokenAt 24 = .ok (.ireturn, 1) := by decide +kernel
theorem dX4_brokenAt_25 : decode cX4_brokenAt 25 = .ok (.iinc 1 1, 3) := by decide +kernel
theorem dX4_brokenAt_28 : decode cX4_brokenAt 28 = .ok (.goto (-26), 3) := by decide +kernel
theorem dX4_brokenAt_31 : decode cX4_brokenAt 31 = .ok (.iconst (-1), 1) := by decide +kernel
theorem dX4_brokenAt_32 : decode cX4_brokenAt 32 = .ok (.ireturn, 1) := by decide +kernel
set_option maxRecDepth 20000 in
theorem ggX4_wordsTo_X4_isLamp : GoodIn wsX4_wordsTo wsX4_isLamp := goodIn_r _ [7] (by decide +kernel) (by decide +kernel)
set_option maxRecDepth 20000 in
theorem gX4_wordsTo_X4_isLamp : GoodIn wsX4_wordsTo (va_wsS RX4 41 yX4_isLamp wsX4_isLamp) := goodIn_app (goodIn_of _ (by decide +kernel)) ggX4_wordsTo_X4_isLamp
set_option maxRecDepth 20000 in
theorem ggX4_wordsTo_X2_wordsUpTo : GoodIn wsX4_wordsTo wsX2_wordsUpTo := goodIn_r _ [12, 13, 14, 15, 16, 11, 17, 23, 24, 25, 26, 27, 28, 29, 30, 31, 32, 33, 34, 35] (by decide +kernel) (by decide +kernel)
set_option maxRecDepth 20000 in
theorem gX4_wordsTo_X2_wordsUpTo : GoodIn wsX4_wordsTo (wsV RX4 233 RX2 yX2_wordsUpTo wsX2_wordsUpTo) := goodIn_app (goodIn_of _ (by decide +kernel)) ggX4_wordsTo_X2_wordsUpTo
theorem dX4_wordsTo_0 : decode cX4_wordsTo 0 = .ok (.iload_n 1, 1) := by decide +kernel
theorem dX4_wordsTo_1 : decode cX4_wordsTo 1 = .ok (.invokestatic 41, 3) := by decide +kernel
theorem dX4_wordsTo_4 : decode cX4_wordsTo 4 = .ok (.ifCond .ne 13, 3) := by decide +kernel
theorem dX4_wordsTo_7 : decode cX4_wordsTo 7 = .ok (.new 45, 3) := by decide +kernel
theorem dX4_wordsTo_10 : decode cX4_wordsTo 10 = .ok (.dup, 1) := by decide +kernel
theorem dX4_wordsTo_11 : decode cX4_wordsTo 11 = .ok (.ldc 47, 2) := by decide +kernel
theorem dX4_wordsTo_13 : decode cX4_wordsTo 13 = .ok (.invokespecial 49, 3) := by decide +kernel
theorem dX4_wordsTo_16 : decode cX4_wordsTo 16 = .ok (.athrow, 1) := by decide +kernel
theorem dX4_wordsTo_17 : decode cX4_wordsTo 17 = .ok (.aload_n 0, 1) := by decide +kernel
theorem dX4_wordsTo_18 : decode cX4_wordsTo 18 = .ok (.getfield 10, 3) := by decide +kernel
theorem dX4_wordsTo_21 : decode cX4_wordsTo 21 = .ok (.iload_n 1, 1) := by decide +kernel
theorem dX4_wordsTo_22 : decode cX4_wordsTo 22 = .ok (.invokevirtual 233, 3) := by decide +kernel
theorem dX4_wordsTo_25 : decode cX4_wordsTo 25 = .ok (.ireturn, 1) := by decide +kernel
set_option maxRecDepth 20000 in
theorem ggX4_brightness_X2_shownTogether : GoodIn wsX4_brightness wsX2_shownTogether := goodIn_r _ [7, 8, 9, 10, 11, 6, 12, 13, 14, 15, 16, 17, 18, 19, 20, 26, 27, 28, 29, 30, 31, 32, 33, 34, 35, 36, 37, 38] (by decide +kernel) (by decide +kernel)
set_option maxRecDepth 20000 in
theorem gX4_brightness_X2_shownTogether : GoodIn wsX4_brightness (wsV RX4 207 RX2 yX2_shownTogether wsX2_shownTogether) := goodIn_app (goodIn_of _ (by decide +kernel)) ggX4_brightness_X2_shownTogether
theorem dX4_brightness_0 : decode cX4_brightness 0 = .ok (.aload_n 0, 1) := by decide +kernel
theorem dX4_brightness_1 : decode cX4_brightness 1 = .ok (.getfield 10, 3) := by decide +kernel
theorem dX4_brightness_4 : decode cX4_brightness 4 = .ok (.invokevirtual 207, 3) := by decide +kernel
theorem dX4_brightness_7 : decode cX4_brightness 7 = .ok (.i2d, 1) := by decide +kernel
theorem dX4_brightness_8 : decode cX4_brightness 8 = .ok (.ldc2_w 236, 3) := by decide +kernel
theorem dX4_brightness_11 : decode cX4_brightness 11 = .ok (.ddiv, 1) := by decide +kernel
theorem dX4_brightness_12 : decode cX4_brightness 12 = .ok (.dreturn, 1) := by decide +kernel
set_option maxRecDepth 20000 in
theorem ggX4_digest_X4_count : GoodIn wsX4_digest wsX4_count := goodIn_ca (goodIn_r _ [15, 16, 17, 3, 5, 18, 19, 20, 21, 22, 23, 24, 25, 26, 27, 28, 29, 30, 31, 32, 33, 34, 35, 36, 37, 38, 39, 40, 41, 42, 43, 44, 45, 46, 47, 171, 172, 173, 174, 175, 176, 177, 178, 179, 180, 181, 182, 183, 184, 185, 186, 187, 188, 191, 192] (by decide +kernel) (by decide +kernel)) (goodIn_sub (fun _ h => List.mem_cons_of_mem _ (List.mem_append_left _ (List.mem_append_right _ h))) (by decide +kernel))
set_option maxRecDepth 20000 in
theorem gX4_digest_X4_count : GoodIn wsX4_digest (wsV RX4 242 RX4 yX4_count wsX4_count) := goodIn_app (goodIn_of _ (by decide +kernel)) ggX4_digest_X4_count
set_option maxRecDepth 20000 in
theorem ggX4_digest_X4_withLamps : GoodIn wsX4_digest wsX4_withLamps := goodIn_ca (goodIn_ca (goodIn_r _ [51, 52, 3, 2, 53, 54, 55, 56, 57, 58, 59, 60, 61, 62, 63, 64, 65, 66, 67, 68, 69, 70, 71, 72, 73, 74, 75, 76, 77, 78, 79, 28, 80, 81, 82, 83, 84, 85, 86, 87, 88, 89, 90, 91, 92, 93, 94, 95, 96, 97, 43, 98, 99, 100, 101, 102, 103, 104, 105, 106, 107, 108, 14, 109, 110, 111, 16, 17, 112, 113, 114, 115, 116, 117, 118, 119, 120, 32, 33, 25, 26, 27, 29, 30, 31, 121, 40, 41, 42, 122, 123, 124, 125, 126, 127, 128, 129, 130, 131, 132, 133, 134, 135, 136, 137, 138, 139, 140, 141, 142, 143, 144, 145, 146, 147, 148, 149, 171, 172, 173, 174, 175, 193, 194, 195, 196, 197, 198, 176, 177, 178, 179, 180, 181, 182, 183, 184, 185, 186, 187, 188] (by decide +kernel) (by decide +kernel)) (goodIn_sub (fun _ h => List.mem_cons_of_mem _ (List.mem_append_right _ h)) (by decide +kernel))) (goodIn_sub (fun _ h => List.mem_cons_of_mem _ (List.mem_append_left _ (List.mem_append_right _ h))) (by decide +kernel))
set_option maxRecDepth 20000 in
theorem gX4_digest_X4_withLamps : GoodIn wsX4_digest (wsV RX4 245 RX4 yX4_withLamps wsX4_withLamps) := goodIn_app (goodIn_of _ (by decide +kernel)) ggX4_digest_X4_withLamps
set_option maxRecDepth 20000 in
theorem ggX4_digest_X4_wrong : GoodIn wsX4_digest wsX4_wrong := goodIn_ca (goodIn_r _ [153, 16, 17, 3, 154, 155, 14, 156, 145, 146, 147, 28, 148, 138, 127, 85, 139, 79, 80, 133, 82, 83, 84, 102, 95, 96, 97, 43, 140, 99, 100, 101, 103, 104, 105, 171, 172, 173, 174, 175, 176, 177, 178, 179, 180, 181, 182, 183, 184, 185, 186, 187, 188] (by decide +kernel) (by decide +kernel)) (goodIn_sub (fun _ h => List.mem_cons_of_mem _ (List.mem_append_left _ (List.mem_append_right _ h))) (by decide +kernel))
set_option maxRecDepth 20000 in
theorem gX4_digest_X4_wrong : GoodIn wsX4_digest (wsV RX4 249 RX4 yX4_wrong wsX4_wrong) := goodIn_app (goodIn_of _ (by decide +kernel)) ggX4_digest_X4_wrong
set_option maxRecDepth 20000 in
theorem ggX4_digest_X4_brokenAt : GoodIn wsX4_digest wsX4_brokenAt := goodIn_r _ [160, 3, 112, 171, 172, 173, 174, 175, 176, 177, 178, 179, 180, 181, 182, 183, 184, 185, 186, 187, 188] (by decide +kernel) (by decide +kernel)
set_option maxRecDepth 20000 in
theorem gX4_digest_X4_brokenAt : GoodIn wsX4_digest (wsV RX4 252 RX4 yX4_brokenAt wsX4_brokenAt) := goodIn_app (goodIn_of _ (by decide +kernel)) ggX4_digest_X4_brokenAt
set_option maxRecDepth 20000 in
theorem ggX4_digest_X4_brightness : GoodIn wsX4_digest wsX4_brightness := goodIn_r _ [164, 3, 165, 34, 35, 36, 28, 37, 30, 38, 26, 27, 29, 31, 32, 33, 39, 40, 41, 42, 43, 171, 172, 173, 174, 175, 176, 177, 178, 179, 180, 181, 182, 183, 184, 185, 186, 187, 188] (by decide +kernel) (by decide +kernel)
set_option maxRecDepth 20000 in
theorem gX4_digest_X4_brightness : GoodIn wsX4_digest (wsV RX4 255 RX4 yX4_brightness wsX4_brightness) := goodIn_app (goodIn_of _ (by decide +kernel)) ggX4_digest_X4_brightness
set_option maxRecDepth 20000 in
theorem ggX4_digest_X4_bitsOf : GoodIn wsX4_digest wsX4_bitsOf := goodIn_r _ [168, 169, 170] (by decide +kernel) (by decide +kernel)
set_option maxRecDepth 20000 in
theorem gX4_digest_X4_bitsOf : GoodIn wsX4_digest (va_wsS RX4 259 yX4_bitsOf wsX4_bitsOf) := goodIn_app (goodIn_of _ (by decide +kernel)) ggX4_digest_X4_bitsOf
theorem dX4_digest_0 : decode cX4_digest 0 = .ok (.ldc2_w 238, 3) := by decide +kernel
theorem dX4_digest_3 : decode cX4_digest 3 = .ok (.lstore_n 1, 1) := by decide +kernel
theorem dX4_digest_4 : decode cX4_digest 4 = .ok (.iconst 0, 1) := by decide +kernel
theorem dX4_digest_5 : decode cX4_digest 5 = .ok (.istore_n 3, 1) := by decide +kernel
theorem dX4_digest_6 : decode cX4_digest 6 = .ok (.iload_n 3, 1) := by decide +kernel
theorem dX4_digest_7 : decode cX4_digest 7 = .ok (.bipush 11, 2) := by decide +kernel
theorem dX4_digest_9 : decode cX4_digest 9 = .ok (.if_icmp .ge 22, 3) := by decide +kernel
theorem dX4_digest_12 : decode cX4_digest 12 = .ok (.ldc2_w 240, 3) := by decide +kernel
theorem dX4_digest_15 : decode cX4_digest 15 = .ok (.lload_n 1, 1) := by decide +kernel
theorem dX4_digest_16 : decode cX4_digest 16 = .ok (.lmul, 1) := by decide +kernel
theorem dX4_digest_17 : decode cX4_digest 17 = .ok (.aload_n 0, 1) := by decide +kernel
theorem dX4_digest_18 : decode cX4_digest 18 = .ok (.iload_n 3, 1) := by decide +kernel
theorem dX4_digest_19 : decode cX4_digest 19 = .ok (.invokevirtual 242, 3) := by decide +kernel
theorem dX4_digest_22 : decode cX4_digest 22 = .ok (.i2l, 1) := by decide +kernel
theorem dX4_digest_23 : decode cX4_digest 23 = .ok (.ladd, 1) := by decide +kernel
theorem dX4_digest_24 : decode cX4_digest 24 = .ok (.lstore_n 1, 1) := by decide +kernel
theorem dX4_digest_25 : decode cX4_digest 25 = .ok (.iinc 3 1, 3) := by decide +kernel
theorem dX4_digest_28 : decode cX4_digest 28 = .ok (.goto (-22), 3) := by decide +kernel
theorem dX4_digest_31 : decode cX4_digest 31 = .ok (.iconst 0, 1) := by decide +kernel
theorem dX4_digest_32 : decode cX4_digest 32 = .ok (.istore_n 3, 1) := by decide +kernel
theorem dX4_digest_33 : decode cX4_digest 33 = .ok (.iload_n 3, 1) := by decide +kernel
theorem dX4_digest_34 : decode cX4_digest 34 = .ok (.iconst 3, 1) := by decide +kernel
theorem dX4_digest_35 : decode cX4_digest 35 = .ok (.if_icmp .ge 26, 3) := by decide +kernel
theorem dX4_digest_38 : decode cX4_digest 38 = .ok (.ldc2_w 240, 3) := by decide +kernel
theorem dX4_digest_41 : decode cX4_digest 41 = .ok (.lload_n 1, 1) := by decide +kernel
theorem dX4_digest_42 : decode cX4_digest 42 = .ok (.lmul, 1) := by decide +kernel
theorem dX4_digest_43 : decode cX4_digest 43 = .ok (.aload_n 0, 1) := by decide +kernel
theorem dX4_digest_44 : decode cX4_digest 44 = .ok (.getfield 10, 3) := by decide +kernel
theorem dX4_digest_47 : decode cX4_digest 47 = .ok (.getfield 83, 3) := by decide +kernel
theorem dX4_digest_50 : decode cX4_digest 50 = .ok (.iload_n 3, 1) := by decide +kernel
theorem dX4_digest_51 : decode cX4_digest 51 = .ok (.iaload, 1) := by decide +kernel
theorem dX4_digest_52 : decode cX4_digest 52 = .ok (.i2l, 1) := by decide +kernel
theorem dX4_digest_53 : decode cX4_digest 53 = .ok (.ladd, 1) := by decide +kernel
theorem dX4_digest_54 : decode cX4_digest 54 = .ok (.lstore_n 1, 1) := by decide +kernel
theorem dX4_digest_55 : decode cX4_digest 55 = .ok (.iinc 3 1, 3) := by decide +kernel
theorem dX4_digest_58 : decode cX4_digest 58 = .ok (.goto (-25), 3) := by decide +kernel
theorem dX4_digest_61 : decode cX4_digest 61 = .ok (.aload_n 0, 1) := by decide +kernel
theorem dX4_digest_62 : decode cX4_digest 62 = .ok (.lload_n 1, 1) := by decide +kernel
theorem dX4_digest_63 : decode cX4_digest 63 = .ok (.invokevirtual 245, 3) := by decide +kernel
theorem dX4_digest_66 : decode cX4_digest 66 = .ok (.lstore_n 1, 1) := by decide +kernel
theorem dX4_digest_67 : decode cX4_digest 67 = .ok (.iconst 0, 1) := by decide +kernel
theorem dX4_digest_68 : decode cX4_digest 68 = .ok (.istore_n 3, 1) := by decide +kernel
theorem dX4_digest_69 : decode cX4_digest 69 = .ok (.iload_n 3, 1) := by decide +kernel
theorem dX4_digest_70 : decode cX4_digest 70 = .ok (.aload_n 0, 1) := by decide +kernel
theorem dX4_digest_71 : decode cX4_digest 71 = .ok (.getfield 10, 3) := by decide +kernel
theorem dX4_digest_74 : decode cX4_digest 74 = .ok (.getfield 99, 3) := by decide +kernel
theorem dX4_digest_77 : decode cX4_digest 77 = .ok (.if_icmp .ge 32, 3) := by decide +kernel
theorem dX4_digest_80 : decode cX4_digest 80 = .ok (.iload_n 3, 1) := by decide +kernel
theorem dX4_digest_81 : decode cX4_digest 81 = .ok (.bipush 120, 2) := by decide +kernel
theorem dX4_digest_83 : decode cX4_digest 83 = .ok (.if_icmp .ge 26, 3) := by decide +kernel
theorem dX4_digest_86 : decode cX4_digest 86 = .ok (.ldc2_w 240, 3) := by decide +kernel
theorem dX4_digest_89 : decode cX4_digest 89 = .ok (.lload_n 1, 1) := by decide +kernel
theorem dX4_digest_90 : decode cX4_digest 90 = .ok (.lmul, 1) := by decide +kernel
theorem dX4_digest_91 : decode cX4_digest 91 = .ok (.aload_n 0, 1) := by decide +kernel
theorem dX4_digest_92 : decode cX4_digest 92 = .ok (.getfield 10, 3) := by decide +kernel
theorem dX4_digest_95 : decode cX4_digest 95 = .ok (.getfield 195, 3) := by decide +kernel
theorem dX4_digest_98 : decode cX4_digest 98 = .ok (.iload_n 3, 1) := by decide +kernel
theorem dX4_digest_99 : decode cX4_digest 99 = .ok (.iaload, 1) := by decide +kernel
theorem dX4_digest_100 : decode cX4_digest 100 = .ok (.i2l, 1) := by decide +kernel
theorem dX4_digest_101 : decode cX4_digest 101 = .ok (.ladd, 1) := by decide +kernel
theorem dX4_digest_102 : decode cX4_digest 102 = .ok (.lstore_n 1, 1) := by decide +kernel
theorem dX4_digest_103 : decode cX4_digest 103 = .ok (.iinc 3 1, 3) := by decide +kernel
theorem dX4_digest_106 : decode cX4_digest 106 = .ok (.goto (-37), 3) := by decide +kernel
theorem dX4_digest_109 : decode cX4_digest 109 = .ok (.ldc2_w 240, 3) := by decide +kernel
theorem dX4_digest_112 : decode cX4_digest 112 = .ok (.lload_n 1, 1) := by decide +kernel
theorem dX4_digest_113 : decode cX4_digest 113 = .ok (.lmul, 1) := by decide +kernel
theorem dX4_digest_114 : decode cX4_digest 114 = .ok (.aload_n 0, 1) := by decide +kernel
theorem dX4_digest_115 : decode cX4_digest 115 = .ok (.sipush 1365, 3) := by decide +kernel
theorem dX4_digest_118 : decode cX4_digest 118 = .ok (.invokevirtual 249, 3) := by decide +kernel
theorem dX4_digest_121 : decode cX4_digest 121 = .ok (.i2l, 1) := by decide +kernel
theorem dX4_digest_122 : decode cX4_digest 122 = .ok (.ladd, 1) := by decide +kernel
theorem dX4_digest_123 : decode cX4_digest 123 = .ok (.lstore_n 1, 1) := by decide +kernel
theorem dX4_digest_124 : decode cX4_digest 124 = .ok (.ldc2_w 240, 3) := by decide +kernel
theorem dX4_digest_127 : decode cX4_digest 127 = .ok (.lload_n 1, 1) := by decide +kernel
theorem dX4_digest_128 : decode cX4_digest 128 = .ok (.lmul, 1) := by decide +kernel
theorem dX4_digest_129 : decode cX4_digest 129 = .ok (.aload_n 0, 1) := by decide +kernel
theorem dX4_digest_130 : decode cX4_digest 130 = .ok (.sipush 4095, 3) := by decide +kernel
theorem dX4_digest_133 : decode cX4_digest 133 = .ok (.invokevirtual 249, 3) := by decide +kernel
theorem dX4_digest_136 : decode cX4_digest 136 = .ok (.i2l, 1) := by decide +kernel
theorem dX4_digest_137 : decode cX4_digest 137 = .ok (.ladd, 1) := by decide +kernel
theorem dX4_digest_138 : decode cX4_digest 138 = .ok (.lstore_n 1, 1) := by decide +kernel
theorem dX4_digest_139 : decode cX4_digest 139 = .ok (.ldc2_w 240, 3) := by decide +kernel
theorem dX4_digest_142 : decode cX4_digest 142 = .ok (.lload_n 1, 1) := by decide +kernel
theorem dX4_digest_143 : decode cX4_digest 143 = .ok (.lmul, 1) := by decide +kernel
theorem dX4_digest_144 : decode cX4_digest 144 = .ok (.aload_n 0, 1) := by decide +kernel
theorem dX4_digest_145 : decode cX4_digest 145 = .ok (.invokevirtual 252, 3) := by decide +kernel
theorem dX4_digest_148 : decode cX4_digest 148 = .ok (.i2l, 1) := by decide +kernel
theorem dX4_digest_149 : decode cX4_digest 149 = .ok (.ladd, 1) := by decide +kernel
theorem dX4_digest_150 : decode cX4_digest 150 = .ok (.lstore_n 1, 1) := by decide +kernel
theorem dX4_digest_151 : decode cX4_digest 151 = .ok (.ldc2_w 240, 3) := by decide +kernel
theorem dX4_digest_154 : decode cX4_digest 154 = .ok (.lload_n 1, 1) := by decide +kernel
theorem dX4_digest_155 : decode cX4_digest 155 = .ok (.lmul, 1) := by decide +kernel
theorem dX4_digest_156 : decode cX4_digest 156 = .ok (.aload_n 0, 1) := by decide +kernel
theorem dX4_digest_157 : decode cX4_digest 157 = .ok (.invokevirtual 255, 3) := by decide +kernel
theorem dX4_digest_160 : decode cX4_digest 160 = .ok (.invokestatic 259, 3) := by decide +kernel
theorem dX4_digest_163 : decode cX4_digest 163 = .ok (.ladd, 1) := by decide +kernel
theorem dX4_digest_164 : decode cX4_digest 164 = .ok (.lstore_n 1, 1) := by decide +kernel
theorem dX4_digest_165 : decode cX4_digest 165 = .ok (.iconst 0, 1) := by decide +kernel
theorem dX4_digest_166 : decode cX4_digest 166 = .ok (.istore_n 3, 1) := by decide +kernel
theorem dX4_digest_167 : decode cX4_digest 167 = .ok (.iload_n 3, 1) := by decide +kernel
theorem dX4_digest_168 : decode cX4_digest 168 = .ok (.iconst 2, 1) := by decide +kernel
theorem dX4_digest_169 : decode cX4_digest 169 = .ok (.if_icmp .ge 31, 3) := by decide +kernel
theorem dX4_digest_172 : decode cX4_digest 172 = .ok (.ldc2_w 240, 3) := by decide +kernel
theorem dX4_digest_175 : decode cX4_digest 175 = .ok (.lload_n 1, 1) := by decide +kernel
theorem dX4_digest_176 : decode cX4_digest 176 = .ok (.lmul, 1) := by decide +kernel
theorem dX4_digest_177 : decode cX4_digest 177 = .ok (.aload_n 0, 1) := by decide +kernel
theorem dX4_digest_178 : decode cX4_digest 178 = .ok (.getfield 37, 3) := by decide +kernel
theorem dX4_digest_181 : decode cX4_digest 181 = .ok (.iload_n 3, 1) := by decide +kernel
theorem dX4_digest_182 : decode cX4_digest 182 = .ok (.aaload, 1) := by decide +kernel
theorem dX4_digest_183 : decode cX4_digest 183 = .ok (.ifnonnull 7, 3) := by decide +kernel
theorem dX4_digest_186 : decode cX4_digest 186 = .ok (.iconst 0, 1) := by decide +kernel
theorem dX4_digest_187 : decode cX4_digest 187 = .ok (.goto 4, 3) := by decide +kernel
theorem dX4_digest_190 : decode cX4_digest 190 = .ok (.iconst 1, 1) := by decide +kernel
theorem dX4_digest_191 : decode cX4_digest 191 = .ok (.i2l, 1) := by decide +kernel
theorem dX4_digest_192 : decode cX4_digest 192 = .ok (.ladd, 1) := by decide +kernel
theorem dX4_digest_193 : decode cX4_digest 193 = .ok (.lstore_n 1, 1) := by decide +kernel
theorem dX4_digest_194 : decode cX4_digest 194 = .ok (.iinc 3 1, 3) := by decide +kernel
theorem dX4_digest_197 : decode cX4_digest 197 = .ok (.goto (-30), 3) := by decide +kernel
theorem dX4_digest_200 : decode cX4_digest 200 = .ok (.ldc2_w 240, 3) := by decide +kernel
theorem dX4_digest_203 : decode cX4_digest 203 = .ok (.lload_n 1, 1) := by decide +kernel
theorem dX4_digest_204 : decode cX4_digest 204 = .ok (.lmul, 1) := by decide +kernel
theorem dX4_digest_205 : decode cX4_digest 205 = .ok (.aload_n 0, 1) := by decide +kernel
theorem dX4_digest_206 : decode cX4_digest 206 = .ok (.getfield 26, 3) := by decide +kernel
theorem dX4_digest_209 : decode cX4_digest 209 = .ok (.getfield 119, 3) := by decide +kernel
theorem dX4_digest_212 : decode cX4_digest 212 = .ok (.i2l, 1) := by decide +kernel
theorem dX4_digest_213 : decode cX4_digest 213 = .ok (.ladd, 1) := by decide +kernel
theorem dX4_digest_214 : decode cX4_digest 214 = .ok (.lstore_n 1, 1) := by decide +kernel
theorem dX4_digest_215 : decode cX4_digest 215 = .ok (.iconst 0, 1) := by decide +kernel
theorem dX4_digest_216 : decode cX4_digest 216 = .ok (.istore_n 3, 1) := by decide +kernel
theorem dX4_digest_217 : decode cX4_digest 217 = .ok (.iload_n 3, 1) := by decide +kernel
theorem dX4_digest_218 : decode cX4_digest 218 = .ok (.aload_n 0, 1) := by decide +kernel
theorem dX4_digest_219 : decode cX4_digest 219 = .ok (.getfield 26, 3) := by decide +kernel
theorem dX4_digest_222 : decode cX4_digest 222 = .ok (.getfield 119, 3) := by decide +kernel
theorem dX4_digest_225 : decode cX4_digest 225 = .ok (.if_icmp .ge 32, 3) := by decide +kernel
theorem dX4_digest_228 : decode cX4_digest 228 = .ok (.iload_n 3, 1) := by decide +kernel
theorem dX4_digest_229 : decode cX4_digest 229 = .ok (.bipush 60, 2) := by decide +kernel
theorem dX4_digest_231 : decode cX4_digest 231 = .ok (.if_icmp .ge 26, 3) := by decide +kernel
theorem dX4_digest_234 : decode cX4_digest 234 = .ok (.ldc2_w 240, 3) := by decide +kernel
theorem dX4_digest_237 : decode cX4_digest 237 = .ok (.lload_n 1, 1) := by decide +kernel
theorem dX4_digest_238 : decode cX4_digest 238 = .ok (.lmul, 1) := by decide +kernel
theorem dX4_digest_239 : decode cX4_digest 239 = .ok (.aload_n 0, 1) := by decide +kernel
theorem dX4_digest_240 : decode cX4_digest 240 = .ok (.getfield 26, 3) := by decide +kernel
theorem dX4_digest_243 : decode cX4_digest 243 = .ok (.getfield 263, 3) := by decide +kernel
theorem dX4_digest_246 : decode cX4_digest 246 = .ok (.iload_n 3, 1) := by decide +kernel
theorem dX4_digest_247 : decode cX4_digest 247 = .ok (.caload, 1) := by decide +kernel
theorem dX4_digest_248 : decode cX4_digest 248 = .ok (.i2l, 1) := by decide +kernel
theorem dX4_digest_249 : decode cX4_digest 249 = .ok (.ladd, 1) := by decide +kernel
theorem dX4_digest_250 : decode cX4_digest 250 = .ok (.lstore_n 1, 1) := by decide +kernel
theorem dX4_digest_251 : decode cX4_digest 251 = .ok (.iinc 3 1, 3) := by decide +kernel
theorem dX4_digest_254 : decode cX4_digest 254 = .ok (.goto (-37), 3) := by decide +kernel
theorem dX4_digest_257 : decode cX4_digest 257 = .ok (.lload_n 1, 1) := by decide +kernel
theorem dX4_digest_258 : decode cX4_digest 258 = .ok (.lreturn, 1) := by decide +kernel
set_option maxRecDepth 20000 in
theorem ggX4_withLamps_X1_goThrough : GoodIn wsX4_withLamps wsX1_goThrough := goodIn_r _ [9, 10, 11, 12, 13, 14, 15, 16, 17, 18, 19, 20, 21, 22, 23, 24, 25, 26, 27, 8, 28, 29, 30, 31, 32, 33, 34, 35, 36, 37, 38, 39, 40, 41, 42, 43, 44, 45, 46, 47, 48, 49, 50, 51, 52, 53, 54, 55, 56, 57, 58, 128, 129, 130, 131, 132, 133, 134, 135, 136, 137, 138, 139, 140, 122, 123, 124, 125, 126, 127] (by decide +kernel) (by decide +kernel)
set_option maxRecDepth 20000 in
theorem gX4_withLamps_X1_goThrough : GoodIn wsX4_withLamps (wsV RX4 223 RX1 yX1_goThrough wsX1_goThrough) := goodIn_app (goodIn_of _ (by decide +kernel)) ggX4_withLamps_X1_goThrough
set_option maxRecDepth 20000 in
theorem ggX4_withLamps_X4_lampOf : GoodIn wsX4_withLamps wsX4_lampOf := goodIn_ca (goodIn_ca (goodIn_r _ [63, 64, 65, 66, 67, 2, 68, 69, 70, 71, 72, 73, 74, 62, 75, 76, 77, 31, 78, 79, 80, 81, 82, 83, 84, 85, 86, 87, 88, 50, 117, 118, 119, 120, 121, 128, 129, 130, 131, 132, 133, 134, 135, 136, 137, 138, 139, 140] (by decide +kernel) (by decide +kernel)) (goodIn_sub (fun _ h => List.mem_cons_of_mem _ (List.mem_append_left _ (List.mem_append_right _ h))) (by decide +kernel))) (goodIn_sub (fun _ h => List.mem_cons_of_mem _ (List.mem_append_right _ h)) (by decide +kernel))
set_option maxRecDepth 20000 in
theorem gX4_withLamps_X4_lampOf : GoodIn wsX4_withLamps (wsV RX4 267 RX4 yX4_lampOf wsX4_lampOf) := goodIn_app (goodIn_of _ (by decide +kernel)) ggX4_withLamps_X4_lampOf
set_option maxRecDepth 20000 in
theorem ggX4_withLamps_X2_wordByPlace : GoodIn wsX4_withLamps wsX2_wordByPlace := goodIn_r _ [92, 93, 94, 95, 96, 97, 98, 31, 99, 37, 100, 34, 35, 36, 101, 102, 103, 104, 105, 106, 30, 32, 107, 52, 53, 54, 50, 55, 47, 48, 49, 56, 57, 58, 128, 129, 130, 131, 132, 133, 134, 135, 136, 137, 138, 139, 140] (by decide +kernel) (by decide +kernel)
set_option maxRecDepth 20000 in
theorem gX4_withLamps_X2_wordByPlace : GoodIn wsX4_withLamps (wsV RX4 220 RX2 yX2_wordByPlace wsX2_wordByPlace) := goodIn_app (goodIn_of _ (by decide +kernel)) ggX4_withLamps_X2_wordByPlace
set_option maxRecDepth 20000 in
theorem ggX4_withLamps_X4_bears : GoodIn wsX4_withLamps wsX4_bears := goodIn_ca (goodIn_r _ [111, 64, 65, 2, 73, 74, 62, 75, 112, 113, 114, 31, 115, 105, 94, 37, 106, 30, 32, 100, 34, 35, 36, 55, 47, 48, 49, 50, 107, 52, 53, 54, 56, 57, 58, 117, 118, 119, 120, 121, 128, 129, 130, 131, 132, 133, 134, 135, 136, 137, 138, 139, 140] (by decide +kernel) (by decide +kernel)) (goodIn_sub (fun _ h => List.mem_cons_of_mem _ (List.mem_append_left _ (List.mem_append_right _ h))) (by decide +kernel))
set_option maxRecDepth 20000 in
theorem gX4_withLamps_X4_bears : GoodIn wsX4_withLamps (wsV RX4 270 RX4 yX4_bears wsX4_bears) := goodIn_app (goodIn_of _ (by decide +kernel)) ggX4_withLamps_X4_bears
set_option maxRecDepth 20000 in
theorem ggX4_withLamps_X2_wordsUpTo : GoodIn wsX4_withLamps wsX2_wordsUpTo := goodIn_r _ [99, 37, 100, 34, 35, 31, 36, 128, 129, 130, 131, 132, 133, 134, 135, 136, 137, 138, 139, 140] (by decide +kernel) (by decide +kernel)
set_option maxRecDepth 20000 in
theorem gX4_withLamps_X2_wordsUpTo : GoodIn wsX4_withLamps (wsV RX4 233 RX2 yX2_wordsUpTo wsX2_wordsUpTo) := goodIn_app (goodIn_of _ (by decide +kernel)) ggX4_withLamps_X2_wordsUpTo
theorem dX4_withLamps_0 : decode cX4_withLamps 0 = .ok (.lload_n 1, 1) := by decide +kernel
theorem dX4_withLamps_1 : decode cX4_withLamps 1 = .ok (.lstore_n 3, 1) := by decide +kernel
theorem dX4_withLamps_2 : decode cX4_withLamps 2 = .ok (.aload_n 0, 1) := by decide +kernel
theorem dX4_withLamps_3 : decode cX4_withLamps 3 = .ok (.getfield 19, 3) := by decide +kernel
theorem dX4_withLamps_6 : decode cX4_withLamps 6 = .ok (.aload_n 0, 1) := by decide +kernel
theorem dX4_withLamps_7 : decode cX4_withLamps 7 = .ok (.getfield 10, 3) := by decide +kernel
theorem dX4_withLamps_10 : decode cX4_withLamps 10 = .ok (.invokevirtual 223, 3) := by decide +kernel
theorem dX4_withLamps_13 : decode cX4_withLamps 13 = .ok (.iconst 0, 1) := by decide +kernel
theorem dX4_withLamps_14 : decode cX4_withLamps 14 = .ok (.istore 5, 2) := by decide +kernel
theorem dX4_withLamps_16 : decode cX4_withLamps 16 = .ok (.iload 5, 2) := by decide +kernel
theorem dX4_withLamps_18 : decode cX4_withLamps 18 = .ok (.bipush 8, 2) := by decide +kernel
theorem dX4_withLamps_20 : decode cX4_withLamps 20 = .ok (.if_icmp .ge 107, 3) := by decide +kernel
theorem dX4_withLamps_23 : decode cX4_withLamps 23 = .ok (.iconst 0, 1) := by decide +kernel
theorem dX4_withLamps_24 : decode cX4_withLamps 24 = .ok (.istore 6, 2) := by decide +kernel
theorem dX4_withLamps_26 : decode cX4_withLamps 26 = .ok (.iload 6, 2) := by decide +kernel
theorem dX4_withLamps_28 : decode cX4_withLamps 28 = .ok (.bipush 8, 2) := by decide +kernel
theorem dX4_withLamps_30 : decode cX4_withLamps 30 = .ok (.if_icmp .ge 25, 3) := by decide +kernel
theorem dX4_withLamps_33 : decode cX4_withLamps 33 = .ok (.ldc2_w 240, 3) := by decide +kernel
theorem dX4_withLamps_36 : decode cX4_withLamps 36 = .ok (.lload_n 3, 1) := by decide +kernel
theorem dX4_withLamps_37 : decode cX4_withLamps 37 = .ok (.lmul, 1) := by decide +kernel
theorem dX4_withLamps_38 : decode cX4_withLamps 38 = .ok (.aload_n 0, 1) := by decide +kernel
theorem dX4_withLamps_39 : decode cX4_withLamps 39 = .ok (.iload 5, 2) := by decide +kernel
theorem dX4_withLamps_41 : decode cX4_withLamps 41 = .ok (.iload 6, 2) := by decide +kernel
theorem dX4_withLamps_43 : decode cX4_withLamps 43 = .ok (.invokevirtual 267, 3) := by decide +kernel
theorem dX4_withLamps_46 : decode cX4_withLamps 46 = .ok (.i2l, 1) := by decide +kernel
theorem dX4_withLamps_47 : decode cX4_withLamps 47 = .ok (.ladd, 1) := by decide +kernel
theorem dX4_withLamps_48 : decode cX4_withLamps 48 = .ok (.lstore_n 3, 1) := by decide +kernel
theorem dX4_withLamps_49 : decode cX4_withLamps 49 = .ok (.iinc 6 1, 3) := by decide +kernel
theorem dX4_withLamps_52 : decode cX4_withLamps 52 = .ok (.goto (-26), 3) := by decide +kernel
theorem dX4_withLamps_55 : decode cX4_withLamps 55 = .ok (.ldc2_w 240, 3) := by decide +kernel
theorem dX4_withLamps_58 : decode cX4_withLamps 58 = .ok (.lload_n 3, 1) := by decide +kernel
theorem dX4_withLamps_59 : decode cX4_withLamps 59 = .ok (.lmul, 1) := by decide +kernel
theorem dX4_withLamps_60 : decode cX4_withLamps 60 = .ok (.aload_n 0, 1) := by decide +kernel
theorem dX4_withLamps_61 : decode cX4_withLamps 61 = .ok (.getfield 19, 3) := by decide +kernel
theorem dX4_withLamps_64 : decode cX4_withLamps 64 = .ok (.getfield 226, 3) := by decide +kernel
theorem dX4_withLamps_67 : decode cX4_withLamps 67 = .ok (.iload 5, 2) := by decide +kernel
theorem dX4_withLamps_69 : decode cX4_withLamps 69 = .ok (.iaload, 1) := by decide +kernel
theorem dX4_withLamps_70 : decode cX4_withLamps 70 = .ok (.i2l, 1) := by decide +kernel
theorem dX4_withLamps_71 : decode cX4_withLamps 71 = .ok (.ladd, 1) := by decide +kernel
theorem dX4_withLamps_72 : decode cX4_withLamps 72 = .ok (.lstore_n 3, 1) := by decide +kernel
theorem dX4_withLamps_73 : decode cX4_withLamps 73 = .ok (.ldc2_w 240, 3) := by decide +kernel
theorem dX4_withLamps_76 : decode cX4_withLamps 76 = .ok (.lload_n 3, 1) := by decide +kernel
theorem dX4_withLamps_77 : decode cX4_withLamps 77 = .ok (.lmul, 1) := by decide +kernel
theorem dX4_withLamps_78 : decode cX4_withLamps 78 = .ok (.aload_n 0, 1) := by decide +kernel
theorem dX4_withLamps_79 : decode cX4_withLamps 79 = .ok (.getfield 10, 3) := by decide +kernel
theorem dX4_withLamps_82 : decode cX4_withLamps 82 = .ok (.iload 5, 2) := by decide +kernel
theorem dX4_withLamps_84 : decode cX4_withLamps 84 = .ok (.invokevirtual 220, 3) := by decide +kernel
theorem dX4_withLamps_87 : decode cX4_withLamps 87 = .ok (.i2l, 1) := by decide +kernel
theorem dX4_withLamps_88 : decode cX4_withLamps 88 = .ok (.ladd, 1) := by decide +kernel
theorem dX4_withLamps_89 : decode cX4_withLamps 89 = .ok (.lstore_n 3, 1) := by decide +kernel
theorem dX4_withLamps_90 : decode cX4_withLamps 90 = .ok (.ldc2_w 240, 3) := by decide +kernel
theorem dX4_withLamps_93 : decode cX4_withLamps 93 = .ok (.lload_n 3, 1) := by decide +kernel
theorem dX4_withLamps_94 : decode cX4_withLamps 94 = .ok (.lmul, 1) := by decide +kernel
theorem dX4_withLamps_95 : decode cX4_withLamps 95 = .ok (.aload_n 0, 1) := by decide +kernel
theorem dX4_withLamps_96 : decode cX4_withLamps 96 = .ok (.iload 5, 2) := by decide +kernel
theorem dX4_withLamps_98 : decode cX4_withLamps 98 = .ok (.invokevirtual 270, 3) := by decide +kernel
theorem dX4_withLamps_101 : decode cX4_withLamps 101 = .ok (.i2l, 1) := by decide +kernel
theorem dX4_withLamps_102 : decode cX4_withLamps 102 = .ok (.ladd, 1) := by decide +kernel
theorem dX4_withLamps_103 : decode cX4_withLamps 103 = .ok (.lstore_n 3, 1) := by decide +kernel
theorem dX4_withLamps_104 : decode cX4_withLamps 104 = .ok (.ldc2_w 240, 3) := by decide +kernel
theorem dX4_withLamps_107 : decode cX4_withLamps 107 = .ok (.lload_n 3, 1) := by decide +kernel
theorem dX4_withLamps_108 : decode cX4_withLamps 108 = .ok (.lmul, 1) := by decide +kernel
theorem dX4_withLamps_109 : decode cX4_withLamps 109 = .ok (.aload_n 0, 1) := by decide +kernel
theorem dX4_withLamps_110 : decode cX4_withLamps 110 = .ok (.getfield 10, 3) := by decide +kernel
theorem dX4_withLamps_113 : decode cX4_withLamps 113 = .ok (.iload 5, 2) := by decide +kernel
theorem dX4_withLamps_115 : decode cX4_withLamps 115 = .ok (.invokevirtual 233, 3) := by decide +kernel
theorem dX4_withLamps_118 : decode cX4_withLamps 118 = .ok (.i2l, 1) := by decide +kernel
theorem dX4_withLamps_119 : decode cX4_withLamps 119 = .ok (.ladd, 1) := by decide +kernel
theorem dX4_withLamps_120 : decode cX4_withLamps 120 = .ok (.lstore_n 3, 1) := by decide +kernel
theorem dX4_withLamps_121 : decode cX4_withLamps 121 = .ok (.iinc 5 1, 3) := by decide +kernel
theorem dX4_withLamps_124 : decode cX4_withLamps 124 = .ok (.goto (-108), 3) := by decide +kernel
theorem dX4_withLamps_127 : decode cX4_withLamps 127 = .ok (.lload_n 3, 1) := by decide +kernel
theorem dX4_withLamps_128 : decode cX4_withLamps 128 = .ok (.lreturn, 1) := by decide +kernel
theorem dX4_refuse_0 : decode cX4_refuse 0 = .ok (.aload_n 0, 1) := by decide +kernel
theorem dX4_refuse_1 : decode cX4_refuse 1 = .ok (.getfield 10, 3) := by decide +kernel
theorem dX4_refuse_4 : decode cX4_refuse 4 = .ok (.dup, 1) := by decide +kernel
theorem dX4_refuse_5 : decode cX4_refuse 5 = .ok (.getfield 213, 3) := by decide +kernel
theorem dX4_refuse_8 : decode cX4_refuse 8 = .ok (.iconst 1, 1) := by decide +kernel
theorem dX4_refuse_9 : decode cX4_refuse 9 = .ok (.iadd, 1) := by decide +kernel
theorem dX4_refuse_10 : decode cX4_refuse 10 = .ok (.putfield 213, 3) := by decide +kernel
theorem dX4_refuse_13 : decode cX4_refuse 13 = .ok (.iconst (-1), 1) := by decide +kernel
theorem dX4_refuse_14 : decode cX4_refuse 14 = .ok (.ireturn, 1) := by decide +kernel
set_option maxRecDepth 20000 in
theorem ggX4_letGapBe_X1_goThrough : GoodIn wsX4_letGapBe wsX1_goThrough := goodIn_r _ [18, 19, 20, 21, 22, 23, 24, 25, 26, 27, 28, 29, 30, 31, 32, 33, 34, 35, 36, 17, 37, 38, 39, 40, 41, 42, 43, 44, 45, 46, 47, 48, 49, 50, 51, 52, 53, 54, 55, 56, 57, 58, 59, 60, 61, 62, 63, 64, 65, 66, 67, 73, 74, 75, 76, 77, 78, 79, 80, 81, 82, 83, 84, 85, 86, 87, 88, 89, 90, 91] (by decide +kernel) (by decide +kernel)
set_option maxRecDepth 20000 in
theorem gX4_letGapBe_X1_goThrough : GoodIn wsX4_letGapBe (wsV RX4 223 RX1 yX1_goThrough wsX1_goThrough) := goodIn_app (goodIn_of _ (by decide +kernel)) ggX4_letGapBe_X1_goThrough
theorem dX4_letGapBe_0 : decode cX4_letGapBe 0 = .ok (.aload_n 0, 1) := by decide +kernel
theorem dX4_letGapBe_1 : decode cX4_letGapBe 1 = .ok (.getfield 19, 3) := by decide +kernel
theorem dX4_letGapBe_4 : decode cX4_letGapBe 4 = .ok (.aload_n 0, 1) := by decide +kernel
theorem dX4_letGapBe_5 : decode cX4_letGapBe 5 = .ok (.getfield 10, 3) := by decide +kernel
theorem dX4_letGapBe_8 : decode cX4_letGapBe 8 = .ok (.invokevirtual 223, 3) := by decide +kernel
theorem dX4_letGapBe_11 : decode cX4_letGapBe 11 = .ok (.iconst 0, 1) := by decide +kernel
theorem dX4_letGapBe_12 : decode cX4_letGapBe 12 = .ok (.istore_n 1, 1) := by decide +kernel
theorem dX4_letGapBe_13 : decode cX4_letGapBe 13 = .ok (.iconst 0, 1) := by decide +kernel
theorem dX4_letGapBe_14 : decode cX4_letGapBe 14 = .ok (.istore_n 2, 1) := by decide +kernel
theorem dX4_letGapBe_15 : decode cX4_letGapBe 15 = .ok (.iload_n 2, 1) := by decide +kernel
theorem dX4_letGapBe_16 : decode cX4_letGapBe 16 = .ok (.bipush 8, 2) := by decide +kernel
theorem dX4_letGapBe_18 : decode cX4_letGapBe 18 = .ok (.if_icmp .ge 103, 3) := by decide +kernel
theorem dX4_letGapBe_21 : decode cX4_letGapBe 21 = .ok (.aload_n 0, 1) := by decide +kernel
theorem dX4_letGapBe_22 : decode cX4_letGapBe 22 = .ok (.getfield 10, 3) := by decide +kernel
theorem dX4_letGapBe_25 : decode cX4_letGapBe 25 = .ok (.getfield 172, 3) := by decide +kernel
theorem dX4_letGapBe_28 : decode cX4_letGapBe 28 = .ok (.iload_n 2, 1) := by decide +kernel
theorem dX4_letGapBe_29 : decode cX4_letGapBe 29 = .ok (.iaload, 1) := by decide +kernel
theorem dX4_letGapBe_30 : decode cX4_letGapBe 30 = .ok (.aload_n 0, 1) := by decide +kernel
theorem dX4_letGapBe_31 : decode cX4_letGapBe 31 = .ok (.getfield 19, 3) := by decide +kernel
theorem dX4_letGapBe_34 : decode cX4_letGapBe 34 = .ok (.getfield 226, 3) := by decide +kernel
theorem dX4_letGapBe_37 : decode cX4_letGapBe 37 = .ok (.iload_n 2, 1) := by decide +kernel
theorem dX4_letGapBe_38 : decode cX4_letGapBe 38 = .ok (.iaload, 1) := by decide +kernel
theorem dX4_letGapBe_39 : decode cX4_letGapBe 39 = .ok (.if_icmp .eq 6, 3) := by decide +kernel
theorem dX4_letGapBe_42 : decode cX4_letGapBe 42 = .ok (.iinc 1 1, 3) := by decide +kernel
theorem dX4_letGapBe_45 : decode cX4_letGapBe 45 = .ok (.aload_n 0, 1) := by decide +kernel
theorem dX4_letGapBe_46 : decode cX4_letGapBe 46 = .ok (.getfield 10, 3) := by decide +kernel
theorem dX4_letGapBe_49 : decode cX4_letGapBe 49 = .ok (.getfield 172, 3) := by decide +kernel
theorem dX4_letGapBe_52 : decode cX4_letGapBe 52 = .ok (.iload_n 2, 1) := by decide +kernel
theorem dX4_letGapBe_53 : decode cX4_letGapBe 53 = .ok (.aload_n 0, 1) := by decide +kernel
theorem dX4_letGapBe_54 : decode cX4_letGapBe 54 = .ok (.getfield 19, 3) := by decide +kernel
theorem dX4_letGapBe_57 : decode cX4_letGapBe 57 = .ok (.getfield 226, 3) := by decide +kernel
theorem dX4_letGapBe_60 : decode cX4_letGapBe 60 = .ok (.iload_n 2, 1) := by decide +kernel
theorem dX4_letGapBe_61 : decode cX4_letGapBe 61 = .ok (.iaload, 1) := by decide +kernel
theorem dX4_letGapBe_62 : decode cX4_letGapBe 62 = .ok (.iastore, 1) := by decide +kernel
theorem dX4_letGapBe_63 : decode cX4_letGapBe 63 = .ok (.aload_n 0, 1) := by decide +kernel
theorem dX4_letGapBe_64 : decode cX4_letGapBe 64 = .ok (.getfield 10, 3) := by decide +kernel
theorem dX4_letGapBe_67 : decode cX4_letGapBe 67 = .ok (.getfield 188, 3) := by decide +kernel
theorem dX4_letGapBe_70 : decode cX4_letGapBe 70 = .ok (.iload_n 2, 1) := by decide +kernel
theorem dX4_letGapBe_71 : decode cX4_letGapBe 71 = .ok (.aload_n 0, 1) := by decide +kernel
theorem dX4_letGapBe_72 : decode cX4_letGapBe 72 = .ok (.getfield 19, 3) := by decide +kernel
theorem dX4_letGapBe_75 : decode cX4_letGapBe 75 = .ok (.getfield 273, 3) := by decide +kernel
theorem dX4_letGapBe_78 : decode cX4_letGapBe 78 = .ok (.iload_n 2, 1) := by decide +kernel
theorem dX4_letGapBe_79 : decode cX4_letGapBe 79 = .ok (.iaload, 1) := by decide +kernel
theorem dX4_letGapBe_80 : decode cX4_letGapBe 80 = .ok (.iastore, 1) := by decide +kernel
theorem dX4_letGapBe_81 : decode cX4_letGapBe 81 = .ok (.aload_n 0, 1) := by decide +kernel
theorem dX4_letGapBe_82 : decode cX4_letGapBe 82 = .ok (.getfield 10, 3) := by decide +kernel
theorem dX4_letGapBe_85 : decode cX4_letGapBe 85 = .ok (.getfield 175, 3) := by decide +kernel
theorem dX4_letGapBe_88 : decode cX4_letGapBe 88 = .ok (.iload_n 2, 1) := by decide +kernel
theorem dX4_letGapBe_89 : decode cX4_letGapBe 89 = .ok (.aload_n 0, 1) := by decide +kernel
theorem dX4_letGapBe_90 : decode cX4_letGapBe 90 = .ok (.getfield 10, 3) := by decide +kernel
theorem dX4_letGapBe_93 : decode cX4_letGapBe 93 = .ok (.getfield 61, 3) := by decide +kernel
theorem dX4_letGapBe_96 : decode cX4_letGapBe 96 = .ok (.iload_n 2, 1) := by decide +kernel
theorem dX4_letGapBe_97 : decode cX4_letGapBe 97 = .ok (.iaload, 1) := by decide +kernel
theorem dX4_letGapBe_98 : decode cX4_letGapBe 98 = .ok (.ifCond .ne 15, 3) := by decide +kernel
theorem dX4_letGapBe_101 : decode cX4_letGapBe 101 = .ok (.aload_n 0, 1) := by decide +kernel
theorem dX4_letGapBe_102 : decode cX4_letGapBe 102 = .ok (.getfield 19, 3) := by decide +kernel
theorem dX4_letGapBe_105 : decode cX4_letGapBe 105 = .ok (.getfield 226, 3) := by decide +kernel
theorem dX4_letGapBe_108 : decode cX4_letGapBe 108 = .ok (.iload_n 2, 1) := by decide +kernel
theorem dX4_letGapBe_109 : decode cX4_letGapBe 109 = .ok (.iaload, 1) := by decide +kernel
theorem dX4_letGapBe_110 : decode cX4_letGapBe 110 = .ok (.goto 4, 3) := by decide +kernel
theorem dX4_letGapBe_113 : decode cX4_letGapBe 113 = .ok (.iconst 0, 1) := by decide +kernel
theorem dX4_letGapBe_114 : decode cX4_letGapBe 114 = .ok (.iastore, 1) := by decide +kernel
theorem dX4_letGapBe_115 : decode cX4_letGapBe 115 = .ok (.iinc 2 1, 3) := by decide +kernel
theorem dX4_letGapBe_118 : decode cX4_letGapBe 118 = .ok (.goto (-103), 3) := by decide +kernel
theorem dX4_letGapBe_121 : decode cX4_letGapBe 121 = .ok (.aload_n 0, 1) := by decide +kernel
theorem dX4_letGapBe_122 : decode cX4_letGapBe 122 = .ok (.getfield 10, 3) := by decide +kernel
theorem dX4_letGapBe_125 : decode cX4_letGapBe 125 = .ok (.dup, 1) := by decide +kernel
theorem dX4_letGapBe_126 : decode cX4_letGapBe 126 = .ok (.getfield 198, 3) := by decide +kernel
theorem dX4_letGapBe_129 : decode cX4_letGapBe 129 = .ok (.iconst 1, 1) := by decide +kernel
theorem dX4_letGapBe_130 : decode cX4_letGapBe 130 = .ok (.iadd, 1) := by decide +kernel
theorem dX4_letGapBe_131 : decode cX4_letGapBe 131 = .ok (.putfield 198, 3) := by decide +kernel
theorem dX4_letGapBe_134 : decode cX4_letGapBe 134 = .ok (.aload_n 0, 1) := by decide +kernel
theorem dX4_letGapBe_135 : decode cX4_letGapBe 135 = .ok (.getfield 10, 3) := by decide +kernel
theorem dX4_letGapBe_138 : decode cX4_letGapBe 138 = .ok (.dup, 1) := by decide +kernel
theorem dX4_letGapBe_139 : decode cX4_letGapBe 139 = .ok (.getfield 201, 3) := by decide +kernel
theorem dX4_letGapBe_142 : decode cX4_letGapBe 142 = .ok (.aload_n 0, 1) := by decide +kernel
theorem dX4_letGapBe_143 : decode cX4_letGapBe 143 = .ok (.getfield 19, 3) := by decide +kernel
theorem dX4_letGapBe_146 : decode cX4_letGapBe 146 = .ok (.getfield 274, 3) := by decide +kernel
theorem dX4_letGapBe_149 : decode cX4_letGapBe 149 = .ok (.iadd, 1) := by decide +kernel
theorem dX4_letGapBe_150 : decode cX4_letGapBe 150 = .ok (.putfield 201, 3) := by decide +kernel
theorem dX4_letGapBe_153 : decode cX4_letGapBe 153 = .ok (.aload_n 0, 1) := by decide +kernel
theorem dX4_letGapBe_154 : decode cX4_letGapBe 154 = .ok (.getfield 10, 3) := by decide +kernel
theorem dX4_letGapBe_157 : decode cX4_letGapBe 157 = .ok (.dup, 1) := by decide +kernel
theorem dX4_letGapBe_158 : decode cX4_letGapBe 158 = .ok (.getfield 204, 3) := by decide +kernel
theorem dX4_letGapBe_161 : decode cX4_letGapBe 161 = .ok (.aload_n 0, 1) := by decide +kernel
theorem dX4_letGapBe_162 : decode cX4_letGapBe 162 = .ok (.getfield 10, 3) := by decide +kernel
theorem dX4_letGapBe_165 : decode cX4_letGapBe 165 = .ok (.getfield 99, 3) := by decide +kernel
theorem dX4_letGapBe_168 : decode cX4_letGapBe 168 = .ok (.aload_n 0, 1) := by decide +kernel
theorem dX4_letGapBe_169 : decode cX4_letGapBe 169 = .ok (.getfield 19, 3) := by decide +kernel
theorem dX4_letGapBe_172 : decode cX4_letGapBe 172 = .ok (.getfield 274, 3) := by decide +kernel
theorem dX4_letGapBe_175 : decode cX4_letGapBe 175 = .ok (.isub, 1) := by decide +kernel
theorem dX4_letGapBe_176 : decode cX4_letGapBe 176 = .ok (.iadd, 1) := by decide +kernel
theorem dX4_letGapBe_177 : decode cX4_letGapBe 177 = .ok (.putfield 204, 3) := by decide +kernel
theorem dX4_letGapBe_180 : decode cX4_letGapBe 180 = .ok (.aload_n 0, 1) := by decide +kernel
theorem dX4_letGapBe_181 : decode cX4_letGapBe 181 = .ok (.getfield 10, 3) := by decide +kernel
theorem dX4_letGapBe_184 : decode cX4_letGapBe 184 = .ok (.iconst 0, 1) := by decide +kernel
theorem dX4_letGapBe_185 : decode cX4_letGapBe 185 = .ok (.putfield 99, 3) := by decide +kernel
theorem dX4_letGapBe_188 : decode cX4_letGapBe 188 = .ok (.iload_n 1, 1) := by decide +kernel
theorem dX4_letGapBe_189 : decode cX4_letGapBe 189 = .ok (.ireturn, 1) := by decide +kernel
theorem dX4_isLamp_0 : decode cX4_isLamp 0 = .ok (.iload_n 0, 1) := by decide +kernel
theorem dX4_isLamp_1 : decode cX4_isLamp 1 = .ok (.ifCond .lt 13, 3) := by decide +kernel
theorem dX4_isLamp_4 : decode cX4_isLamp 4 = .ok (.iload_n 0, 1) := by decide +kernel
theorem dX4_isLamp_5 : decode cX4_isLamp 5 = .ok (.bipush 8, 2) := by decide +kernel
theorem dX4_isLamp_7 : decode cX4_isLamp 7 = .ok (.if_icmp .ge 7, 3) := by decide +kernel
theorem dX4_isLamp_10 : decode cX4_isLamp 10 = .ok (.iconst 1, 1) := by decide +kernel
theorem dX4_isLamp_11 : decode cX4_isLamp 11 = .ok (.goto 4, 3) := by decide +kernel
theorem dX4_isLamp_14 : decode cX4_isLamp 14 = .ok (.iconst 0, 1) := by decide +kernel
theorem dX4_isLamp_15 : decode cX4_isLamp 15 = .ok (.ireturn, 1) := by decide +kernel
theorem dX4_isSetting_0 : decode cX4_isSetting 0 = .ok (.iload_n 0, 1) := by decide +kernel
theorem dX4_isSetting_1 : decode cX4_isSetting 1 = .ok (.ifCond .lt 12, 3) := by decide +kernel
theorem dX4_isSetting_4 : decode cX4_isSetting 4 = .ok (.iload_n 0, 1) := by decide +kernel
theorem dX4_isSetting_5 : decode cX4_isSetting 5 = .ok (.iconst 3, 1) := by decide +kernel
theorem dX4_isSetting_6 : decode cX4_isSetting 6 = .ok (.if_icmp .ge 7, 3) := by decide +kernel
theorem dX4_isSetting_9 : decode cX4_isSetting 9 = .ok (.iconst 1, 1) := by decide +kernel
theorem dX4_isSetting_10 : decode cX4_isSetting 10 = .ok (.goto 4, 3) := by decide +kernel
theorem dX4_isSetting_13 : decode cX4_isSetting 13 = .ok (.iconst 0, 1) := by decide +kernel
theorem dX4_isSetting_14 : decode cX4_isSetting 14 = .ok (.ireturn, 1) := by decide +kernel
theorem dX4_isSlot_0 : decode cX4_isSlot 0 = .ok (.iload_n 0, 1) := by decide +kernel
theorem dX4_isSlot_1 : decode cX4_isSlot 1 = .ok (.ifCond .lt 12, 3) := by decide +kernel
theorem dX4_isSlot_4 : decode cX4_isSlot 4 = .ok (.iload_n 0, 1) := by decide +kernel
theorem dX4_isSlot_5 : decode cX4_isSlot 5 = .ok (.iconst 2, 1) := by decide +kernel
theorem dX4_isSlot_6 : decode cX4_isSlot 6 = .ok (.if_icmp .ge 7, 3) := by decide +kernel
theorem dX4_isSlot_9 : decode cX4_isSlot 9 = .ok (.iconst 1, 1) := by decide +kernel
theorem dX4_isSlot_10 : decode cX4_isSlot 10 = .ok (.goto 4, 3) := by decide +kernel
theorem dX4_isSlot_13 : decode cX4_isSlot 13 = .ok (.iconst 0, 1) := by decide +kernel
theorem dX4_isSlot_14 : decode cX4_isSlot 14 = .ok (.ireturn, 1) := by decide +kernel
theorem dX4_isWord_0 : decode cX4_isWord 0 = .ok (.iload_n 0, 1) := by decide +kernel
theorem dX4_isWord_1 : decode cX4_isWord 1 = .ok (.ifCond .lt 14, 3) := by decide +kernel
theorem dX4_isWord_4 : decode cX4_isWord 4 = .ok (.iload_n 0, 1) := by decide +kernel
theorem dX4_isWord_5 : decode cX4_isWord 5 = .ok (.sipush 4095, 3) := by decide +kernel
theorem dX4_isWord_8 : decode cX4_isWord 8 = .ok (.if_icmp .gt 7, 3) := by decide +kernel
theorem dX4_isWord_11 : decode cX4_isWord 11 = .ok (.iconst 1, 1) := by decide +kernel
theorem dX4_isWord_12 : decode cX4_isWord 12 = .ok (.goto 4, 3) := by decide +kernel
theorem dX4_isWord_15 : decode cX4_isWord 15 = .ok (.iconst 0, 1) := by decide +kernel
theorem dX4_isWord_16 : decode cX4_isWord 16 = .ok (.ireturn, 1) := by decide +kernel
theorem dX4_bitsOf_0 : decode cX4_bitsOf 0 = .ok (.dload_n 0, 1) := by decide +kernel
theorem dX4_bitsOf_1 : decode cX4_bitsOf 1 = .ok (.dconst 0, 1) := by decide +kernel
theorem dX4_bitsOf_2 : decode cX4_bitsOf 2 = .ok (.dcmp .g, 1) := by decide +kernel
theorem dX4_bitsOf_3 : decode cX4_bitsOf 3 = .ok (.ifCond .gt 5, 3) := by decide +kernel
theorem dX4_bitsOf_6 : decode cX4_bitsOf 6 = .ok (.lconst 0, 1) := by decide +kernel
theorem dX4_bitsOf_7 : decode cX4_bitsOf 7 = .ok (.lreturn, 1) := by decide +kernel
theorem dX4_bitsOf_8 : decode cX4_bitsOf 8 = .ok (.dload_n 0, 1) := by decide +kernel
theorem dX4_bitsOf_9 : decode cX4_bitsOf 9 = .ok (.dstore_n 2, 1) := by decide +kernel
theorem dX4_bitsOf_10 : decode cX4_bitsOf 10 = .ok (.iconst 0, 1) := by decide +kernel
theorem dX4_bitsOf_11 : decode cX4_bitsOf 11 = .ok (.istore 4, 2) := by decide +kernel
theorem dX4_bitsOf_13 : decode cX4_bitsOf 13 = .ok (.dload_n 2, 1) := by decide +kernel
theorem dX4_bitsOf_14 : decode cX4_bitsOf 14 = .ok (.dconst 1, 1) := by decide +kernel
theorem dX4_bitsOf_15 : decode cX4_bitsOf 15 = .ok (.dcmp .g, 1) := by decide +kernel
theorem dX4_bitsOf_16 : decode cX4_bitsOf 16 = .ok (.ifCond .ge 23, 3) := by decide +kernel
theorem dX4_bitsOf_19 : decode cX4_bitsOf 19 = .ok (.iload 4, 2) := by decide +kernel
theorem dX4_bitsOf_21 : decode cX4_bitsOf 21 = .ok (.sipush (-1023), 3) := by decide +kernel
theorem dX4_bitsOf_24 : decode cX4_bitsOf 24 = .ok (.if_icmp .le 15, 3) := by decide +kernel
theorem dX4_bitsOf_27 : decode cX4_bitsOf 27 = .ok (.dload_n 2, 1) := by decide +kernel
theorem dX4_bitsOf_28 : decode cX4_bitsOf 28 = .ok (.ldc2_w 275, 3) := by decide +kernel
theorem dX4_bitsOf_31 : decode cX4_bitsOf 31 = .ok (.dmul, 1) := by decide +kernel
theorem dX4_bitsOf_32 : decode cX4_bitsOf 32 = .ok (.dstore_n 2, 1) := by decide +kernel
theorem dX4_bitsOf_33 : decode cX4_bitsOf 33 = .ok (.iinc 4 (-1), 3) := by decide +kernel
theorem dX4_bitsOf_36 : decode cX4_bitsOf 36 = .ok (.goto (-23), 3) := by decide +kernel
theorem dX4_bitsOf_39 : decode cX4_bitsOf 39 = .ok (.dload_n 2, 1) := by decide +kernel
theorem dX4_bitsOf_40 : decode cX4_bitsOf 40 = .ok (.dconst 1, 1) := by decide +kernel
theorem dX4_bitsOf_41 : decode cX4_bitsOf 41 = .ok (.dsub, 1) := by decide +kernel
theorem dX4_bitsOf_42 : decode cX4_bitsOf 42 = .ok (.ldc2_w 277, 3) := by decide +kernel
theorem dX4_bitsOf_45 : decode cX4_bitsOf 45 = .ok (.dmul, 1) := by decide +kernel
theorem dX4_bitsOf_46 : decode cX4_bitsOf 46 = .ok (.d2l, 1) := by decide +kernel
theorem dX4_bitsOf_47 : decode cX4_bitsOf 47 = .ok (.lstore 5, 2) := by decide +kernel
theorem dX4_bitsOf_49 : decode cX4_bitsOf 49 = .ok (.sipush 1023, 3) := by decide +kernel
theorem dX4_bitsOf_52 : decode cX4_bitsOf 52 = .ok (.iload 4, 2) := by decide +kernel
theorem dX4_bitsOf_54 : decode cX4_bitsOf 54 = .ok (.iadd, 1) := by decide +kernel
theorem dX4_bitsOf_55 : decode cX4_bitsOf 55 = .ok (.i2l, 1) := by decide +kernel
theorem dX4_bitsOf_56 : decode cX4_bitsOf 56 = .ok (.bipush 52, 2) := by decide +kernel
theorem dX4_bitsOf_58 : decode cX4_bitsOf 58 = .ok (.lshl, 1) := by decide +kernel
theorem dX4_bitsOf_59 : decode cX4_bitsOf 59 = .ok (.lload 5, 2) := by decide +kernel
theorem dX4_bitsOf_61 : decode cX4_bitsOf 61 = .ok (.ladd, 1) := by decide +kernel
theorem dX4_bitsOf_62 : decode cX4_bitsOf 62 = .ok (.lreturn, 1) := by decide +kernel
