theorem dX0_init_0 : decode cX0_init 0 = .ok (.aload_n 0, 1) := by decide +kernel
theorem dX0_init_1 : decode cX0_init 1 = .ok (.invokespecial 3, 3) := by decide +kernel
theorem dX0_init_4 : decode cX0_init 4 = .ok (.aload_n 0, 1) := by decide +kernel
theorem dX0_init_5 : decode cX0_init 5 = .ok (.bipush 6, 2) := by decide +kernel
theorem dX0_init_7 : decode cX0_init 7 = .ok (.anewarray 9, 3) := by decide +kernel
theorem dX0_init_10 : decode cX0_init 10 = .ok (.putfield 11, 3) := by decide +kernel
theorem dX0_init_13 : decode cX0_init 13 = .ok (.return_, 1) := by decide +kernel
set_option maxRecDepth 20000 in
theorem ggX0_save_X0_dropOldest : GoodIn wsX0_save wsX0_dropOldest := goodIn_r _ [10, 2, 1, 38, 39] (by decide +kernel) (by decide +kernel)
set_option maxRecDepth 20000 in
theorem gX0_save_X0_dropOldest : GoodIn wsX0_save (wsV RX0 21 RX0 yX0_dropOldest wsX0_dropOldest) := goodIn_app (goodIn_of _ (by decide +kernel)) ggX0_save_X0_dropOldest
set_option maxRecDepth 20000 in
theorem ggX0_save_X2_init : GoodIn wsX0_save wsX2_init := goodIn_r _ [12, 13, 14, 15, 16, 17, 18, 19, 20, 21, 22, 23, 40, 41, 42, 43, 44, 45, 46, 47, 48, 49, 50, 51, 52] (by decide +kernel) (by decide +kernel)
set_option maxRecDepth 20000 in
theorem gX0_save_X2_init_n24 : GoodIn wsX0_save (wsX2_init) := ggX0_save_X2_init
set_option maxRecDepth 20000 in
theorem ggX0_save_X2_copyFrom : GoodIn wsX0_save wsX2_copyFrom := goodIn_r _ [27, 17, 28, 29, 30, 31, 18, 19, 20, 21, 22, 23, 32, 33, 34, 35, 36, 37, 40, 41, 42, 43, 44, 45, 46, 47, 48, 49, 50, 51, 52] (by decide +kernel) (by decide +kernel)
set_option maxRecDepth 20000 in
theorem gX0_save_X2_copyFrom : GoodIn wsX0_save (wsV RX0 25 RX2 yX2_copyFrom wsX2_copyFrom) := goodIn_app (goodIn_of _ (by decide +kernel)) ggX0_save_X2_copyFrom
theorem dX0_save_0 : decode cX0_save 0 = .ok (.aload_n 0, 1) := by decide +kernel
theorem dX0_save_1 : decode cX0_save 1 = .ok (.getfield 17, 3) := by decide +kernel
theorem dX0_save_4 : decode cX0_save 4 = .ok (.bipush 6, 2) := by decide +kernel
theorem dX0_save_6 : decode cX0_save 6 = .ok (.if_icmp .lt 7, 3) := by decide +kernel
theorem dX0_save_9 : decode cX0_save 9 = .ok (.aload_n 0, 1) := by decide +kernel
theorem dX0_save_10 : decode cX0_save 10 = .ok (.invokevirtual 21, 3) := by decide +kernel
theorem dX0_save_13 : decode cX0_save 13 = .ok (.aload_n 0, 1) := by decide +kernel
theorem dX0_save_14 : decode cX0_save 14 = .ok (.getfield 17, 3) := by decide +kernel
theorem dX0_save_17 : decode cX0_save 17 = .ok (.ifCond .lt 12, 3) := by decide +kernel
theorem dX0_save_20 : decode cX0_save 20 = .ok (.aload_n 0, 1) := by decide +kernel
theorem dX0_save_21 : decode cX0_save 21 = .ok (.getfield 17, 3) := by decide +kernel
theorem dX0_save_24 : decode cX0_save 24 = .ok (.bipush 6, 2) := by decide +kernel
theorem dX0_save_26 : decode cX0_save 26 = .ok (.if_icmp .lt 4, 3) := by decide +kernel
theorem dX0_save_29 : decode cX0_save 29 = .ok (.return_, 1) := by decide +kernel
theorem dX0_save_30 : decode cX0_save 30 = .ok (.aload_n 0, 1) := by decide +kernel
theorem dX0_save_31 : decode cX0_save 31 = .ok (.getfield 11, 3) := by decide +kernel
theorem dX0_save_34 : decode cX0_save 34 = .ok (.aload_n 0, 1) := by decide +kernel
theorem dX0_save_35 : decode cX0_save 35 = .ok (.getfield 17, 3) := by decide +kernel
theorem dX0_save_38 : decode cX0_save 38 = .ok (.aaload, 1) := by decide +kernel
theorem dX0_save_39 : decode cX0_save 39 = .ok (.astore_n 2, 1) := by decide +kernel
theorem dX0_save_40 : decode cX0_save 40 = .ok (.aload_n 2, 1) := by decide +kernel
theorem dX0_save_41 : decode cX0_save 41 = .ok (.ifnonnull 21, 3) := by decide +kernel
theorem dX0_save_44 : decode cX0_save 44 = .ok (.new 9, 3) := by decide +kernel
theorem dX0_save_47 : decode cX0_save 47 = .ok (.dup, 1) := by decide +kernel
theorem dX0_save_48 : decode cX0_save 48 = .ok (.invokespecial 24, 3) := by decide +kernel
theorem dX0_save_51 : decode cX0_save 51 = .ok (.astore_n 2, 1) := by decide +kernel
theorem dX0_save_52 : decode cX0_save 52 = .ok (.aload_n 0, 1) := by decide +kernel
theorem dX0_save_53 : decode cX0_save 53 = .ok (.getfield 11, 3) := by decide +kernel
theorem dX0_save_56 : decode cX0_save 56 = .ok (.aload_n 0, 1) := by decide +kernel
theorem dX0_save_57 : decode cX0_save 57 = .ok (.getfield 17, 3) := by decide +kernel
theorem dX0_save_60 : decode cX0_save 60 = .ok (.aload_n 2, 1) := by decide +kernel
theorem dX0_save_61 : decode cX0_save 61 = .ok (.aastore, 1) := by decide +kernel
theorem dX0_save_62 : decode cX0_save 62 = .ok (.aload_n 2, 1) := by decide +kernel
theorem dX0_save_63 : decode cX0_save 63 = .ok (.aload_n 1, 1) := by decide +kernel
theorem dX0_save_64 : decode cX0_save 64 = .ok (.invokevirtual 25, 3) := by decide +kernel
theorem dX0_save_67 : decode cX0_save 67 = .ok (.aload_n 0, 1) := by decide +kernel
theorem dX0_save_68 : decode cX0_save 68 = .ok (.dup, 1) := by decide +kernel
theorem dX0_save_69 : decode cX0_save 69 = .ok (.getfield 17, 3) := by decide +kernel
theorem dX0_save_72 : decode cX0_save 72 = .ok (.iconst 1, 1) := by decide +kernel
theorem dX0_save_73 : decode cX0_save 73 = .ok (.iadd, 1) := by decide +kernel
theorem dX0_save_74 : decode cX0_save 74 = .ok (.putfield 17, 3) := by decide +kernel
theorem dX0_save_77 : decode cX0_save 77 = .ok (.return_, 1) := by decide +kernel
theorem dX0_dropOldest_0 : decode cX0_dropOldest 0 = .ok (.aload_n 0, 1) := by decide +kernel
theorem dX0_dropOldest_1 : decode cX0_dropOldest 1 = .ok (.getfield 11, 3) := by decide +kernel
theorem dX0_dropOldest_4 : decode cX0_dropOldest 4 = .ok (.iconst 0, 1) := by decide +kernel
theorem dX0_dropOldest_5 : decode cX0_dropOldest 5 = .ok (.aaload, 1) := by decide +kernel
theorem dX0_dropOldest_6 : decode cX0_dropOldest 6 = .ok (.astore_n 1, 1) := by decide +kernel
theorem dX0_dropOldest_7 : decode cX0_dropOldest 7 = .ok (.iconst 1, 1) := by decide +kernel
theorem dX0_dropOldest_8 : decode cX0_dropOldest 8 = .ok (.istore_n 2, 1) := by decide +kernel
theorem dX0_dropOldest_9 : decode cX0_dropOldest 9 = .ok (.iload_n 2, 1) := by decide +kernel
theorem dX0_dropOldest_10 : decode cX0_dropOldest 10 = .ok (.bipush 6, 2) := by decide +kernel
theorem dX0_dropOldest_12 : decode cX0_dropOldest 12 = .ok (.if_icmp .ge 23, 3) := by decide +kernel
theorem dX0_dropOldest_15 : decode cX0_dropOldest 15 = .ok (.aload_n 0, 1) := by decide +kernel
theorem dX0_dropOldest_16 : decode cX0_dropOldest 16 = .ok (.getfield 11, 3) := by decide +kernel
theorem dX0_dropOldest_19 : decode cX0_dropOldest 19 = .ok (.iload_n 2, 1) := by decide +kernel
theorem dX0_dropOldest_20 : decode cX0_dropOldest 20 = .ok (.iconst 1, 1) := by decide +kernel
theorem dX0_dropOldest_21 : decode cX0_dropOldest 21 = .ok (.isub, 1) := by decide +kernel
theorem dX0_dropOldest_22 : decode cX0_dropOldest 22 = .ok (.aload_n 0, 1) := by decide +kernel
theorem dX0_dropOldest_23 : decode cX0_dropOldest 23 = .ok (.getfield 11, 3) := by decide +kernel
theorem dX0_dropOldest_26 : decode cX0_dropOldest 26 = .ok (.iload_n 2, 1) := by decide +kernel
theorem dX0_dropOldest_27 : decode cX0_dropOldest 27 = .ok (.aaload, 1) := by decide +kernel
theorem dX0_dropOldest_28 : decode cX0_dropOldest 28 = .ok (.aastore, 1) := by decide +kernel
theorem dX0_dropOldest_29 : decode cX0_dropOldest 29 = .ok (.iinc 2 1, 3) := by decide +kernel
theorem dX0_dropOldest_32 : decode cX0_dropOldest 32 = .ok (.goto (-23), 3) := by decide +kernel
theorem dX0_dropOldest_35 : decode cX0_dropOldest 35 = .ok (.aload_n 0, 1) := by decide +kernel
theorem dX0_dropOldest_36 : decode cX0_dropOldest 36 = .ok (.getfield 11, 3) := by decide +kernel
theorem dX0_dropOldest_39 : decode cX0_dropOldest 39 = .ok (.iconst 5, 1) := by decide +kernel
theorem dX0_dropOldest_40 : decode cX0_dropOldest 40 = .ok (.aload_n 1, 1) := by decide +kernel
theorem dX0_dropOldest_41 : decode cX0_dropOldest 41 = .ok (.aastore, 1) := by decide +kernel
theorem dX0_dropOldest_42 : decode cX0_dropOldest 42 = .ok (.aload_n 0, 1) := by decide +kernel
theorem dX0_dropOldest_43 : decode cX0_dropOldest 43 = .ok (.iconst 5, 1) := by decide +kernel
theorem dX0_dropOldest_44 : decode cX0_dropOldest 44 = .ok (.putfield 17, 3) := by decide +kernel
theorem dX0_dropOldest_47 : decode cX0_dropOldest 47 = .ok (.return_, 1) := by decide +kernel
theorem dX0_latest_0 : decode cX0_latest 0 = .ok (.aload_n 0, 1) := by decide +kernel
theorem dX0_latest_1 : decode cX0_latest 1 = .ok (.getfield 17, 3) := by decide +kernel
theorem dX0_latest_4 : decode cX0_latest 4 = .ok (.ifCond .le 26, 3) := by decide +kernel
theorem dX0_latest_7 : decode cX0_latest 7 = .ok (.aload_n 0, 1) := by decide +kernel
theorem dX0_latest_8 : decode cX0_latest 8 = .ok (.getfield 17, 3) := by decide +kernel
theorem dX0_latest_11 : decode cX0_latest 11 = .ok (.bipush 6, 2) := by decide +kernel
theorem dX0_latest_13 : decode cX0_latest 13 = .ok (.if_icmp .gt 17, 3) := by decide +kernel
theorem dX0_latest_16 : decode cX0_latest 16 = .ok (.aload_n 0, 1) := by decide +kernel
theorem dX0_latest_17 : decode cX0_latest 17 = .ok (.getfield 11, 3) := by decide +kernel
theorem dX0_latest_20 : decode cX0_latest 20 = .ok (.aload_n 0, 1) := by decide +kernel
theorem dX0_latest_21 : decode cX0_latest 21 = .ok (.getfield 17, 3) := by decide +kernel
theorem dX0_latest_24 : decode cX0_latest 24 = .ok (.iconst 1, 1) := by decide +kernel
theorem dX0_latest_25 : decode cX0_latest 25 = .ok (.isub, 1) := by decide +kernel
theorem dX0_latest_26 : decode cX0_latest 26 = .ok (.aaload, 1) := by decide +kernel
theorem dX0_latest_27 : decode cX0_latest 27 = .ok (.goto 4, 3) := by decide +kernel
theorem dX0_latest_30 : decode cX0_latest 30 = .ok (.aconst_null, 1) := by decide +kernel
theorem dX0_latest_31 : decode cX0_latest 31 = .ok (.areturn, 1) := by decide +kernel
theorem dX0_forgetLatest_0 : decode cX0_forgetLatest 0 = .ok (.aload_n 0, 1) := by decide +kernel
theorem dX0_forgetLatest_1 : decode cX0_forgetLatest 1 = .ok (.getfield 17, 3) := by decide +kernel
theorem dX0_forgetLatest_4 : decode cX0_forgetLatest 4 = .ok (.ifCond .le 13, 3) := by decide +kernel
theorem dX0_forgetLatest_7 : decode cX0_forgetLatest 7 = .ok (.aload_n 0, 1) := by decide +kernel
theorem dX0_forgetLatest_8 : decode cX0_forgetLatest 8 = .ok (.dup, 1) := by decide +kernel
theorem dX0_forgetLatest_9 : decode cX0_forgetLatest 9 = .ok (.getfield 17, 3) := by decide +kernel
theorem dX0_forgetLatest_12 : decode cX0_forgetLatest 12 = .ok (.iconst 1, 1) := by decide +kernel
theorem dX0_forgetLatest_13 : decode cX0_forgetLatest 13 = .ok (.isub, 1) := by decide +kernel
theorem dX0_forgetLatest_14 : decode cX0_forgetLatest 14 = .ok (.putfield 17, 3) := by decide +kernel
theorem dX0_forgetLatest_17 : decode cX0_forgetLatest 17 = .ok (.return_, 1) := by decide +kernel
theorem dX1_init_0 : decode cX1_init 0 = .ok (.aload_n 0, 1) := by decide +kernel
theorem dX1_init_1 : decode cX1_init 1 = .ok (.invokespecial 3, 3) := by decide +kernel
theorem dX1_init_4 : decode cX1_init 4 = .ok (.aload_n 0, 1) := by decide +kernel
theorem dX1_init_5 : decode cX1_init 5 = .ok (.bipush 8, 2) := by decide +kernel
theorem dX1_init_7 : decode cX1_init 7 = .ok (.newarray .int, 2) := by decide +kernel
theorem dX1_init_9 : decode cX1_init 9 = .ok (.putfield 9, 3) := by decide +kernel
theorem dX1_init_12 : decode cX1_init 12 = .ok (.aload_n 0, 1) := by decide +kernel
theorem dX1_init_13 : decode cX1_init 13 = .ok (.bipush 8, 2) := by decide +kernel
theorem dX1_init_15 : decode cX1_init 15 = .ok (.newarray .int, 2) := by decide +kernel
theorem dX1_init_17 : decode cX1_init 17 = .ok (.putfield 15, 3) := by decide +kernel
theorem dX1_init_20 : decode cX1_init 20 = .ok (.aload_n 0, 1) := by decide +kernel
theorem dX1_init_21 : decode cX1_init 21 = .ok (.bipush 120, 2) := by decide +kernel
theorem dX1_init_23 : decode cX1_init 23 = .ok (.newarray .int, 2) := by decide +kernel
theorem dX1_init_25 : decode cX1_init 25 = .ok (.putfield 18, 3) := by decide +kernel
theorem dX1_init_28 : decode cX1_init 28 = .ok (.return_, 1) := by decide +kernel
set_option maxRecDepth 20000 in
theorem ggX1_goThrough_X1_passWire : GoodIn wsX1_goThrough wsX1_passWire := goodIn_r _ [20, 7, 9, 2, 21, 22, 23, 24, 64, 65, 66, 67, 68, 69] (by decide +kernel) (by decide +kernel)
set_option maxRecDepth 20000 in
theorem gX1_goThrough_X1_passWire : GoodIn wsX1_goThrough (wsV RX1 46 RX1 yX1_passWire wsX1_passWire) := goodIn_app (goodIn_of _ (by decide +kernel)) ggX1_goThrough_X1_passWire
set_option maxRecDepth 20000 in
theorem ggX1_goThrough_X2_takesWords : GoodIn wsX1_goThrough wsX2_takesWords := goodIn_r _ [28, 29, 51, 52, 53, 54, 55, 56, 57, 58, 59, 60, 61, 62, 63] (by decide +kernel) (by decide +kernel)
set_option maxRecDepth 20000 in
theorem gX1_goThrough_X2_takesWords : GoodIn wsX1_goThrough (wsV RX1 53 RX2 yX2_takesWords wsX2_takesWords) := goodIn_app (goodIn_of _ (by decide +kernel)) ggX1_goThrough_X2_takesWords
set_option maxRecDepth 20000 in
theorem ggX1_goThrough_X1_passTaker : GoodIn wsX1_goThrough wsX1_passTaker := goodIn_r _ [33, 9, 7, 13, 2, 34, 35, 36, 19, 37, 10, 38, 39, 40, 23, 41, 42, 43, 44, 45, 46, 47, 48, 49, 50, 64, 65, 66, 67, 68, 69, 51, 52, 53, 54, 55, 56, 57, 58, 59, 60, 61, 62, 63] (by decide +kernel) (by decide +kernel)
set_option maxRecDepth 20000 in
theorem gX1_goThrough_X1_passTaker : GoodIn wsX1_goThrough (wsV RX1 57 RX1 yX1_passTaker wsX1_passTaker) := goodIn_app (goodIn_of _ (by decide +kernel)) ggX1_goThrough_X1_passTaker
theorem dX1_goThrough_0 : decode cX1_goThrough 0 = .ok (.aload_n 1, 1) := by decide +kernel
theorem dX1_goThrough_1 : decode cX1_goThrough 1 = .ok (.getfield 21, 3) := by decide +kernel
theorem dX1_goThrough_4 : decode cX1_goThrough 4 = .ok (.iconst 0, 1) := by decide +kernel
theorem dX1_goThrough_5 : decode cX1_goThrough 5 = .ok (.aload_n 0, 1) := by decide +kernel
theorem dX1_goThrough_6 : decode cX1_goThrough 6 = .ok (.getfield 18, 3) := by decide +kernel
theorem dX1_goThrough_9 : decode cX1_goThrough 9 = .ok (.iconst 0, 1) := by decide +kernel
theorem dX1_goThrough_10 : decode cX1_goThrough 10 = .ok (.bipush 120, 2) := by decide +kernel
theorem dX1_goThrough_12 : decode cX1_goThrough 12 = .ok (.invokestatic 24, 3) := by decide +kernel
theorem dX1_goThrough_15 : decode cX1_goThrough 15 = .ok (.aload_n 0, 1) := by decide +kernel
theorem dX1_goThrough_16 : decode cX1_goThrough 16 = .ok (.iconst 0, 1) := by decide +kernel
theorem dX1_goThrough_17 : decode cX1_goThrough 17 = .ok (.putfield 30, 3) := by decide +kernel
theorem dX1_goThrough_20 : decode cX1_goThrough 20 = .ok (.aload_n 0, 1) := by decide +kernel
theorem dX1_goThrough_21 : decode cX1_goThrough 21 = .ok (.aload_n 1, 1) := by decide +kernel
theorem dX1_goThrough_22 : decode cX1_goThrough 22 = .ok (.getfield 34, 3) := by decide +kernel
theorem dX1_goThrough_25 : decode cX1_goThrough 25 = .ok (.bipush 120, 2) := by decide +kernel
theorem dX1_goThrough_27 : decode cX1_goThrough 27 = .ok (.if_icmp .ge 10, 3) := by decide +kernel
theorem dX1_goThrough_30 : decode cX1_goThrough 30 = .ok (.aload_n 1, 1) := by decide +kernel
theorem dX1_goThrough_31 : decode cX1_goThrough 31 = .ok (.getfield 34, 3) := by decide +kernel
theorem dX1_goThrough_34 : decode cX1_goThrough 34 = .ok (.goto 5, 3) := by decide +kernel
theorem dX1_goThrough_37 : decode cX1_goThrough 37 = .ok (.bipush 120, 2) := by decide +kernel
theorem dX1_goThrough_39 : decode cX1_goThrough 39 = .ok (.putfield 37, 3) := by decide +kernel
theorem dX1_goThrough_42 : decode cX1_goThrough 42 = .ok (.aload_n 0, 1) := by decide +kernel
theorem dX1_goThrough_43 : decode cX1_goThrough 43 = .ok (.iconst 0, 1) := by decide +kernel
theorem dX1_goThrough_44 : decode cX1_goThrough 44 = .ok (.putfield 40, 3) := by decide +kernel
theorem dX1_goThrough_47 : decode cX1_goThrough 47 = .ok (.iconst 0, 1) := by decide +kernel
theorem dX1_goThrough_48 : decode cX1_goThrough 48 = .ok (.istore_n 2, 1) := by decide +kernel
theorem dX1_goThrough_49 : decode cX1_goThrough 49 = .ok (.iload_n 2, 1) := by decide +kernel
theorem dX1_goThrough_50 : decode cX1_goThrough 50 = .ok (.bipush 8, 2) := by decide +kernel
theorem dX1_goThrough_52 : decode cX1_goThrough 52 = .ok (.if_icmp .ge 81, 3) := by decide +kernel
theorem dX1_goThrough_55 : decode cX1_goThrough 55 = .ok (.aload_n 0, 1) := by decide +kernel
theorem dX1_goThrough_56 : decode cX1_goThrough 56 = .ok (.aload_n 1, 1) := by decide +kernel
theorem dX1_goThrough_57 : decode cX1_goThrough 57 = .ok (.getfield 43, 3) := by decide +kernel
theorem dX1_goThrough_60 : decode cX1_goThrough 60 = .ok (.iload_n 2, 1) := by decide +kernel
theorem dX1_goThrough_61 : decode cX1_goThrough 61 = .ok (.iaload, 1) := by decide +kernel
theorem dX1_goThrough_62 : decode cX1_goThrough 62 = .ok (.invokevirtual 46, 3) := by decide +kernel
theorem dX1_goThrough_65 : decode cX1_goThrough 65 = .ok (.aload_n 0, 1) := by decide +kernel
theorem dX1_goThrough_66 : decode cX1_goThrough 66 = .ok (.getfield 9, 3) := by decide +kernel
theorem dX1_goThrough_69 : decode cX1_goThrough 69 = .ok (.iload_n 2, 1) := by decide +kernel
theorem dX1_goThrough_70 : decode cX1_goThrough 70 = .ok (.aload_n 0, 1) := by decide +kernel
theorem dX1_goThrough_71 : decode cX1_goThrough 71 = .ok (.getfield 37, 3) := by decide +kernel
theorem dX1_goThrough_74 : decode cX1_goThrough 74 = .ok (.aload_n 0, 1) := by decide +kernel
theorem dX1_goThrough_75 : decode cX1_goThrough 75 = .ok (.getfield 30, 3) := by decide +kernel
theorem dX1_goThrough_78 : decode cX1_goThrough 78 = .ok (.isub, 1) := by decide +kernel
theorem dX1_goThrough_79 : decode cX1_goThrough 79 = .ok (.iastore, 1) := by decide +kernel
theorem dX1_goThrough_80 : decode cX1_goThrough 80 = .ok (.aload_n 0, 1) := by decide +kernel
theorem dX1_goThrough_81 : decode cX1_goThrough 81 = .ok (.getfield 15, 3) := by decide +kernel
theorem dX1_goThrough_84 : decode cX1_goThrough 84 = .ok (.iload_n 2, 1) := by decide +kernel
theorem dX1_goThrough_85 : decode cX1_goThrough 85 = .ok (.aload_n 1, 1) := by decide +kernel
theorem dX1_goThrough_86 : decode cX1_goThrough 86 = .ok (.getfield 50, 3) := by decide +kernel
theorem dX1_goThrough_89 : decode cX1_goThrough 89 = .ok (.iload_n 2, 1) := by decide +kernel
theorem dX1_goThrough_90 : decode cX1_goThrough 90 = .ok (.iaload, 1) := by decide +kernel
theorem dX1_goThrough_91 : decode cX1_goThrough 91 = .ok (.iastore, 1) := by decide +kernel
theorem dX1_goThrough_92 : decode cX1_goThrough 92 = .ok (.aload_n 1, 1) := by decide +kernel
theorem dX1_goThrough_93 : decode cX1_goThrough 93 = .ok (.iload_n 2, 1) := by decide +kernel
theorem dX1_goThrough_94 : decode cX1_goThrough 94 = .ok (.invokevirtual 53, 3) := by decide +kernel
theorem dX1_goThrough_97 : decode cX1_goThrough 97 = .ok (.ifCond .eq 12, 3) := by decide +kernel
theorem dX1_goThrough_100 : decode cX1_goThrough 100 = .ok (.aload_n 0, 1) := by decide +kernel
theorem dX1_goThrough_101 : decode cX1_goThrough 101 = .ok (.aload_n 1, 1) := by decide +kernel
theorem dX1_goThrough_102 : decode cX1_goThrough 102 = .ok (.iload_n 2, 1) := by decide +kernel
theorem dX1_goThrough_103 : decode cX1_goThrough 103 = .ok (.invokevirtual 57, 3) := by decide +kernel
theorem dX1_goThrough_106 : decode cX1_goThrough 106 = .ok (.goto 21, 3) := by decide +kernel
theorem dX1_goThrough_109 : decode cX1_goThrough 109 = .ok (.aload_n 1, 1) := by decide +kernel
theorem dX1_goThrough_110 : decode cX1_goThrough 110 = .ok (.getfield 61, 3) := by decide +kernel
theorem dX1_goThrough_113 : decode cX1_goThrough 113 = .ok (.iload_n 2, 1) := by decide +kernel
theorem dX1_goThrough_114 : decode cX1_goThrough 114 = .ok (.iaload, 1) := by decide +kernel
theorem dX1_goThrough_115 : decode cX1_goThrough 115 = .ok (.iconst 2, 1) := by decide +kernel
theorem dX1_goThrough_116 : decode cX1_goThrough 116 = .ok (.if_icmp .ne 11, 3) := by decide +kernel
theorem dX1_goThrough_119 : decode cX1_goThrough 119 = .ok (.aload_n 0, 1) := by decide +kernel
theorem dX1_goThrough_120 : decode cX1_goThrough 120 = .ok (.aload_n 0, 1) := by decide +kernel
theorem dX1_goThrough_121 : decode cX1_goThrough 121 = .ok (.getfield 37, 3) := by decide +kernel
theorem dX1_goThrough_124 : decode cX1_goThrough 124 = .ok (.putfield 30, 3) := by decide +kernel
theorem dX1_goThrough_127 : decode cX1_goThrough 127 = .ok (.iinc 2 1, 3) := by decide +kernel
theorem dX1_goThrough_130 : decode cX1_goThrough 130 = .ok (.goto (-81), 3) := by decide +kernel
theorem dX1_goThrough_133 : decode cX1_goThrough 133 = .ok (.return_, 1) := by decide +kernel
set_option maxRecDepth 20000 in
theorem ggX1_passWire_X2_shortened : GoodIn wsX1_passWire wsX2_shortened := goodIn_r _ [7] (by decide +kernel) (by decide +kernel)
set_option maxRecDepth 20000 in
theorem gX1_passWire_X2_shortened : GoodIn wsX1_passWire (va_wsS RX1 64 yX2_shortened wsX2_shortened) := goodIn_app (goodIn_of _ (by decide +kernel)) ggX1_passWire_X2_shortened
theorem dX1_passWire_0 : decode cX1_passWire 0 = .ok (.aload_n 0, 1) := by decide +kernel
theorem dX1_passWire_1 : decode cX1_passWire 1 = .ok (.getfield 30, 3) := by decide +kernel
theorem dX1_passWire_4 : decode cX1_passWire 4 = .ok (.istore_n 2, 1) := by decide +kernel
theorem dX1_passWire_5 : decode cX1_passWire 5 = .ok (.iload_n 2, 1) := by decide +kernel
theorem dX1_passWire_6 : decode cX1_passWire 6 = .ok (.ifCond .lt 39, 3) := by decide +kernel
theorem dX1_passWire_9 : decode cX1_passWire 9 = .ok (.iload_n 2, 1) := by decide +kernel
theorem dX1_passWire_10 : decode cX1_passWire 10 = .ok (.aload_n 0, 1) := by decide +kernel
theorem dX1_passWire_11 : decode cX1_passWire 11 = .ok (.getfield 37, 3) := by decide +kernel
theorem dX1_passWire_14 : decode cX1_passWire 14 = .ok (.if_icmp .ge 31, 3) := by decide +kernel
theorem dX1_passWire_17 : decode cX1_passWire 17 = .ok (.iload_n 2, 1) := by decide +kernel
theorem dX1_passWire_18 : decode cX1_passWire 18 = .ok (.bipush 120, 2) := by decide +kernel
theorem dX1_passWire_20 : decode cX1_passWire 20 = .ok (.if_icmp .ge 25, 3) := by decide +kernel
theorem dX1_passWire_23 : decode cX1_passWire 23 = .ok (.aload_n 0, 1) := by decide +kernel
theorem dX1_passWire_24 : decode cX1_passWire 24 = .ok (.getfield 18, 3) := by decide +kernel
theorem dX1_passWire_27 : decode cX1_passWire 27 = .ok (.iload_n 2, 1) := by decide +kernel
theorem dX1_passWire_28 : decode cX1_passWire 28 = .ok (.aload_n 0, 1) := by decide +kernel
theorem dX1_passWire_29 : decode cX1_passWire 29 = .ok (.getfield 18, 3) := by decide +kernel
theorem dX1_passWire_32 : decode cX1_passWire 32 = .ok (.iload_n 2, 1) := by decide +kernel
theorem dX1_passWire_33 : decode cX1_passWire 33 = .ok (.iaload, 1) := by decide +kernel
theorem dX1_passWire_34 : decode cX1_passWire 34 = .ok (.iload_n 1, 1) := by decide +kernel
theorem dX1_passWire_35 : decode cX1_passWire 35 = .ok (.invokestatic 64, 3) := by decide +kernel
theorem dX1_passWire_38 : decode cX1_passWire 38 = .ok (.iastore, 1) := by decide +kernel
theorem dX1_passWire_39 : decode cX1_passWire 39 = .ok (.iinc 2 1, 3) := by decide +kernel
theorem dX1_passWire_42 : decode cX1_passWire 42 = .ok (.goto (-37), 3) := by decide +kernel
theorem dX1_passWire_45 : decode cX1_passWire 45 = .ok (.return_, 1) := by decide +kernel
set_option maxRecDepth 20000 in
theorem ggX1_passTaker_X1_takeWord : GoodIn wsX1_passTaker wsX1_takeWord := goodIn_r _ [9, 2, 4, 10, 11, 12, 13, 14, 15, 16, 25, 26, 27, 28, 29, 30, 31, 32, 33, 34, 35, 36, 37, 38, 39, 40, 41, 42, 43] (by decide +kernel) (by decide +kernel)
set_option maxRecDepth 20000 in
theorem gX1_passTaker_X1_takeWord : GoodIn wsX1_passTaker (wsV RX1 68 RX1 yX1_takeWord wsX1_takeWord) := goodIn_app (goodIn_of _ (by decide +kernel)) ggX1_passTaker_X1_takeWord
set_option maxRecDepth 20000 in
theorem ggX1_passTaker_X2_handedOn : GoodIn wsX1_passTaker wsX2_handedOn := goodIn_r _ [20, 16, 21, 12, 13, 14, 15, 22, 23, 24, 31, 32, 33, 34, 35, 36, 37, 38, 39, 40, 41, 42, 43] (by decide +kernel) (by decide +kernel)
set_option maxRecDepth 20000 in
theorem gX1_passTaker_X2_handedOn : GoodIn wsX1_passTaker (wsV RX1 72 RX2 yX2_handedOn wsX2_handedOn) := goodIn_app (goodIn_of _ (by decide +kernel)) ggX1_passTaker_X2_handedOn
theorem dX1_passTaker_0 : decode cX1_passTaker 0 = .ok (.aload_n 0, 1) := by decide +kernel
theorem dX1_passTaker_1 : decode cX1_passTaker 1 = .ok (.getfield 37, 3) := by decide +kernel
theorem dX1_passTaker_4 : decode cX1_passTaker 4 = .ok (.aload_n 0, 1) := by decide +kernel
theorem dX1_passTaker_5 : decode cX1_passTaker 5 = .ok (.getfield 30, 3) := by decide +kernel
theorem dX1_passTaker_8 : decode cX1_passTaker 8 = .ok (.isub, 1) := by decide +kernel
theorem dX1_passTaker_9 : decode cX1_passTaker 9 = .ok (.bipush 12, 2) := by decide +kernel
theorem dX1_passTaker_11 : decode cX1_passTaker 11 = .ok (.if_icmp .ge 12, 3) := by decide +kernel
theorem dX1_passTaker_14 : decode cX1_passTaker 14 = .ok (.aload_n 0, 1) := by decide +kernel
theorem dX1_passTaker_15 : decode cX1_passTaker 15 = .ok (.aload_n 0, 1) := by decide +kernel
theorem dX1_passTaker_16 : decode cX1_passTaker 16 = .ok (.getfield 37, 3) := by decide +kernel
theorem dX1_passTaker_19 : decode cX1_passTaker 19 = .ok (.putfield 30, 3) := by decide +kernel
theorem dX1_passTaker_22 : decode cX1_passTaker 22 = .ok (.return_, 1) := by decide +kernel
theorem dX1_passTaker_23 : decode cX1_passTaker 23 = .ok (.aload_n 0, 1) := by decide +kernel
theorem dX1_passTaker_24 : decode cX1_passTaker 24 = .ok (.getfield 15, 3) := by decide +kernel
theorem dX1_passTaker_27 : decode cX1_passTaker 27 = .ok (.iload_n 2, 1) := by decide +kernel
theorem dX1_passTaker_28 : decode cX1_passTaker 28 = .ok (.aload_n 0, 1) := by decide +kernel
theorem dX1_passTaker_29 : decode cX1_passTaker 29 = .ok (.aload_n 1, 1) := by decide +kernel
theorem dX1_passTaker_30 : decode cX1_passTaker 30 = .ok (.invokevirtual 68, 3) := by decide +kernel
theorem dX1_passTaker_33 : decode cX1_passTaker 33 = .ok (.iastore, 1) := by decide +kernel
theorem dX1_passTaker_34 : decode cX1_passTaker 34 = .ok (.aload_n 0, 1) := by decide +kernel
theorem dX1_passTaker_35 : decode cX1_passTaker 35 = .ok (.getfield 30, 3) := by decide +kernel
theorem dX1_passTaker_38 : decode cX1_passTaker 38 = .ok (.istore_n 3, 1) := by decide +kernel
theorem dX1_passTaker_39 : decode cX1_passTaker 39 = .ok (.iload_n 3, 1) := by decide +kernel
theorem dX1_passTaker_40 : decode cX1_passTaker 40 = .ok (.ifCond .lt 39, 3) := by decide +kernel
theorem dX1_passTaker_43 : decode cX1_passTaker 43 = .ok (.iload_n 3, 1) := by decide +kernel
theorem dX1_passTaker_44 : decode cX1_passTaker 44 = .ok (.aload_n 0, 1) := by decide +kernel
theorem dX1_passTaker_45 : decode cX1_passTaker 45 = .ok (.getfield 37, 3) := by decide +kernel
theorem dX1_passTaker_48 : decode cX1_passTaker 48 = .ok (.if_icmp .ge 31, 3) := by decide +kernel
theorem dX1_passTaker_51 : decode cX1_passTaker 51 = .ok (.iload_n 3, 1) := by decide +kernel
theorem dX1_passTaker_52 : decode cX1_passTaker 52 = .ok (.bipush 120, 2) := by decide +kernel
theorem dX1_passTaker_54 : decode cX1_passTaker 54 = .ok (.if_icmp .ge 25, 3) := by decide +kernel
theorem dX1_passTaker_57 : decode cX1_passTaker 57 = .ok (.aload_n 0, 1) := by decide +kernel
theorem dX1_passTaker_58 : decode cX1_passTaker 58 = .ok (.getfield 18, 3) := by decide +kernel
theorem dX1_passTaker_61 : decode cX1_passTaker 61 = .ok (.iload_n 3, 1) := by decide +kernel
theorem dX1_passTaker_62 : decode cX1_passTaker 62 = .ok (.aload_n 1, 1) := by decide +kernel
theorem dX1_passTaker_63 : decode cX1_passTaker 63 = .ok (.aload_n 0, 1) := by decide +kernel
theorem dX1_passTaker_64 : decode cX1_passTaker 64 = .ok (.getfield 18, 3) := by decide +kernel
theorem dX1_passTaker_67 : decode cX1_passTaker 67 = .ok (.iload_n 3, 1) := by decide +kernel
theorem dX1_passTaker_68 : decode cX1_passTaker 68 = .ok (.iaload, 1) := by decide +kernel
theorem dX1_passTaker_69 : decode cX1_passTaker 69 = .ok (.invokevirtual 72, 3) := by decide +kernel
theorem dX1_passTaker_72 : decode cX1_passTaker 72 = .ok (.iastore, 1) := by decide +kernel
theorem dX1_passTaker_73 : decode cX1_passTaker 73 = .ok (.iinc 3 1, 3) := by decide +kernel
theorem dX1_passTaker_76 : decode cX1_passTaker 76 = .ok (.goto (-37), 3) := by decide +kernel
theorem dX1_passTaker_79 : decode cX1_passTaker 79 = .ok (.return_, 1) := by decide +kernel
set_option maxRecDepth 20000 in
theorem ggX1_takeWord_X2_isReadAs1 : GoodIn wsX1_takeWord wsX2_isReadAs1 := goodIn_r _ [8, 9, 16, 17, 18, 19, 20, 21, 22, 23, 24, 25, 26, 27, 28] (by decide +kernel) (by decide +kernel)
set_option maxRecDepth 20000 in
theorem gX1_takeWord_X2_isReadAs1 : GoodIn wsX1_takeWord (wsV RX1 76 RX2 yX2_isReadAs1 wsX2_isReadAs1) := goodIn_app (goodIn_of _ (by decide +kernel)) ggX1_takeWord_X2_isReadAs1
theorem dX1_takeWord_0 : decode cX1_takeWord 0 = .ok (.iconst 0, 1) := by decide +kernel
theorem dX1_takeWord_1 : decode cX1_takeWord 1 = .ok (.istore_n 2, 1) := by decide +kernel
theorem dX1_takeWord_2 : decode cX1_takeWord 2 = .ok (.aload_n 0, 1) := by decide +kernel
theorem dX1_takeWord_3 : decode cX1_takeWord 3 = .ok (.getfield 30, 3) := by decide +kernel
theorem dX1_takeWord_6 : decode cX1_takeWord 6 = .ok (.bipush 12, 2) := by decide +kernel
theorem dX1_takeWord_8 : decode cX1_takeWord 8 = .ok (.iadd, 1) := by decide +kernel
theorem dX1_takeWord_9 : decode cX1_takeWord 9 = .ok (.istore_n 3, 1) := by decide +kernel
theorem dX1_takeWord_10 : decode cX1_takeWord 10 = .ok (.aload_n 0, 1) := by decide +kernel
theorem dX1_takeWord_11 : decode cX1_takeWord 11 = .ok (.getfield 30, 3) := by decide +kernel
theorem dX1_takeWord_14 : decode cX1_takeWord 14 = .ok (.istore 4, 2) := by decide +kernel
theorem dX1_takeWord_16 : decode cX1_takeWord 16 = .ok (.iload 4, 2) := by decide +kernel
theorem dX1_takeWord_18 : decode cX1_takeWord 18 = .ok (.ifCond .lt 46, 3) := by decide +kernel
theorem dX1_takeWord_21 : decode cX1_takeWord 21 = .ok (.iload 4, 2) := by decide +kernel
theorem dX1_takeWord_23 : decode cX1_takeWord 23 = .ok (.iload_n 3, 1) := by decide +kernel
theorem dX1_takeWord_24 : decode cX1_takeWord 24 = .ok (.if_icmp .ge 40, 3) := by decide +kernel
theorem dX1_takeWord_27 : decode cX1_takeWord 27 = .ok (.iload 4, 2) := by decide +kernel
theorem dX1_takeWord_29 : decode cX1_takeWord 29 = .ok (.bipush 120, 2) := by decide +kernel
theorem dX1_takeWord_31 : decode cX1_takeWord 31 = .ok (.if_icmp .ge 33, 3) := by decide +kernel
theorem dX1_takeWord_34 : decode cX1_takeWord 34 = .ok (.iconst 2, 1) := by decide +kernel
theorem dX1_takeWord_35 : decode cX1_takeWord 35 = .ok (.iload_n 2, 1) := by decide +kernel
theorem dX1_takeWord_36 : decode cX1_takeWord 36 = .ok (.imul, 1) := by decide +kernel
theorem dX1_takeWord_37 : decode cX1_takeWord 37 = .ok (.aload_n 1, 1) := by decide +kernel
theorem dX1_takeWord_38 : decode cX1_takeWord 38 = .ok (.aload_n 0, 1) := by decide +kernel
theorem dX1_takeWord_39 : decode cX1_takeWord 39 = .ok (.getfield 18, 3) := by decide +kernel
theorem dX1_takeWord_42 : decode cX1_takeWord 42 = .ok (.iload 4, 2) := by decide +kernel
theorem dX1_takeWord_44 : decode cX1_takeWord 44 = .ok (.iaload, 1) := by decide +kernel
theorem dX1_takeWord_45 : decode cX1_takeWord 45 = .ok (.invokevirtual 76, 3) := by decide +kernel
theorem dX1_takeWord_48 : decode cX1_takeWord 48 = .ok (.ifCond .eq 7, 3) := by decide +kernel
theorem dX1_takeWord_51 : decode cX1_takeWord 51 = .ok (.iconst 1, 1) := by decide +kernel
theorem dX1_takeWord_52 : decode cX1_takeWord 52 = .ok (.goto 4, 3) := by decide +kernel
theorem dX1_takeWord_55 : decode cX1_takeWord 55 = .ok (.iconst 0, 1) := by decide +kernel
theorem dX1_takeWord_56 : decode cX1_takeWord 56 = .ok (.iadd, 1) := by decide +kernel
theorem dX1_takeWord_57 : decode cX1_takeWord 57 = .ok (.istore_n 2, 1) := by decide +kernel
theorem dX1_takeWord_58 : decode cX1_takeWord 58 = .ok (.iinc 4 1, 3) := by decide +kernel
theorem dX1_takeWord_61 : decode cX1_takeWord 61 = .ok (.goto (-45), 3) := by decide +kernel
theorem dX1_takeWord_64 : decode cX1_takeWord 64 = .ok (.aload_n 0, 1) := by decide +kernel
theorem dX1_takeWord_65 : decode cX1_takeWord 65 = .ok (.iload_n 3, 1) := by decide +kernel
theorem dX1_takeWord_66 : decode cX1_takeWord 66 = .ok (.putfield 30, 3) := by decide +kernel
theorem dX1_takeWord_69 : decode cX1_takeWord 69 = .ok (.aload_n 0, 1) := by decide +kernel
theorem dX1_takeWord_70 : decode cX1_takeWord 70 = .ok (.dup, 1) := by decide +kernel
theorem dX1_takeWord_71 : decode cX1_takeWord 71 = .ok (.getfield 40, 3) := by decide +kernel
theorem dX1_takeWord_74 : decode cX1_takeWord 74 = .ok (.bipush 12, 2) := by decide +kernel
theorem dX1_takeWord_76 : decode cX1_takeWord 76 = .ok (.iadd, 1) := by decide +kernel
theorem dX1_takeWord_77 : decode cX1_takeWord 77 = .ok (.putfield 40, 3) := by decide +kernel
theorem dX1_takeWord_80 : decode cX1_takeWord 80 = .ok (.iload_n 2, 1) := by decide +kernel
theorem dX1_takeWord_81 : decode cX1_takeWord 81 = .ok (.ireturn, 1) := by decide +kernel
theorem dX2_init_0 : decode cX2_init 0 = .ok (.aload_n 0, 1) := by decide +kernel
theorem dX2_init_1 : decode cX2_init 1 = .ok (.invokespecial 3, 3) := by decide +kernel
theorem dX2_init_4 : decode cX2_init 4 = .ok (.aload_n 0, 1) := by decide +kernel
theorem dX2_init_5 : decode cX2_init 5 = .ok (.bipush 8, 2) := by decide +kernel
theorem dX2_init_7 : decode cX2_init 7 = .ok (.newarray .int, 2) := by decide +kernel
theorem dX2_init_9 : decode cX2_init 9 = .ok (.putfield 9, 3) := by decide +kernel
theorem dX2_init_12 : decode cX2_init 12 = .ok (.aload_n 0, 1) := by decide +kernel
theorem dX2_init_13 : decode cX2_init 13 = .ok (.bipush 8, 2) := by decide +kernel
theorem dX2_init_15 : decode cX2_init 15 = .ok (.newarray .int, 2) := by decide +kernel
theorem dX2_init_17 : decode cX2_init 17 = .ok (.putfield 15, 3) := by decide +kernel
theorem dX2_init_20 : decode cX2_init 20 = .ok (.aload_n 0, 1) := by decide +kernel
theorem dX2_init_21 : decode cX2_init 21 = .ok (.bipush 8, 2) := by decide +kernel
theorem dX2_init_23 : decode cX2_init 23 = .ok (.newarray .int, 2) := by decide +kernel
theorem dX2_init_25 : decode cX2_init 25 = .ok (.putfield 18, 3) := by decide +kernel
theorem dX2_init_28 : decode cX2_init 28 = .ok (.aload_n 0, 1) := by decide +kernel
theorem dX2_init_29 : decode cX2_init 29 = .ok (.bipush 8, 2) := by decide +kernel
theorem dX2_init_31 : decode cX2_init 31 = .ok (.newarray .int, 2) := by decide +kernel
theorem dX2_init_33 : decode cX2_init 33 = .ok (.putfield 21, 3) := by decide +kernel
theorem dX2_init_36 : decode cX2_init 36 = .ok (.aload_n 0, 1) := by decide +kernel
theorem dX2_init_37 : decode cX2_init 37 = .ok (.bipush 8, 2) := by decide +kernel
theorem dX2_init_39 : decode cX2_init 39 = .ok (.newarray .int, 2) := by decide +kernel
theorem dX2_init_41 : decode cX2_init 41 = .ok (.putfield 24, 3) := by decide +kernel
theorem dX2_init_44 : decode cX2_init 44 = .ok (.aload_n 0, 1) := by decide +kernel
theorem dX2_init_45 : decode cX2_init 45 = .ok (.iconst 3, 1) := by decide +kernel
theorem dX2_init_46 : decode cX2_init 46 = .ok (.newarray .int, 2) := by decide +kernel
theorem dX2_init_48 : decode cX2_init 48 = .ok (.dup, 1) := by decide +kernel
theorem dX2_init_49 : decode cX2_init 49 = .ok (.iconst 0, 1) := by decide +kernel
theorem dX2_init_50 : decode cX2_init 50 = .ok (.bipush 6, 2) := by decide +kernel
theorem dX2_init_52 : decode cX2_init 52 = .ok (.iastore, 1) := by decide +kernel
theorem dX2_init_53 : decode cX2_init 53 = .ok (.dup, 1) := by decide +kernel
theorem dX2_init_54 : decode cX2_init 54 = .ok (.iconst 1, 1) := by decide +kernel
theorem dX2_init_55 : decode cX2_init 55 = .ok (.iconst 1, 1) := by decide +kernel
theorem dX2_init_56 : decode cX2_init 56 = .ok (.iastore, 1) := by decide +kernel
theorem dX2_init_57 : decode cX2_init 57 = .ok (.dup, 1) := by decide +kernel
theorem dX2_init_58 : decode cX2_init 58 = .ok (.iconst 2, 1) := by decide +kernel
theorem dX2_init_59 : decode cX2_init 59 = .ok (.sipush 360, 3) := by decide +kernel
theorem dX2_init_62 : decode cX2_init 62 = .ok (.iastore, 1) := by decide +kernel
theorem dX2_init_63 : decode cX2_init 63 = .ok (.putfield 27, 3) := by decide +kernel
theorem dX2_init_66 : decode cX2_init 66 = .ok (.aload_n 0, 1) := by decide +kernel
theorem dX2_init_67 : decode cX2_init 67 = .ok (.bipush 120, 2) := by decide +kernel
theorem dX2_init_69 : decode cX2_init 69 = .ok (.newarray .int, 2) := by decide +kernel
theorem dX2_init_71 : decode cX2_init 71 = .ok (.putfield 30, 3) := by decide +kernel
theorem dX2_init_74 : decode cX2_init 74 = .ok (.return_, 1) := by decide +kernel
theorem dX2_copyFrom_0 : decode cX2_copyFrom 0 = .ok (.aload_n 1, 1) := by decide +kernel
theorem dX2_copyFrom_1 : decode cX2_copyFrom 1 = .ok (.getfield 9, 3) := by decide +kernel
theorem dX2_copyFrom_4 : decode cX2_copyFrom 4 = .ok (.iconst 0, 1) := by decide +kernel
theorem dX2_copyFrom_5 : decode cX2_copyFrom 5 = .ok (.aload_n 0, 1) := by decide +kernel
theorem dX2_copyFrom_6 : decode cX2_copyFrom 6 = .ok (.getfield 9, 3) := by decide +kernel
theorem dX2_copyFrom_9 : decode cX2_copyFrom 9 = .ok (.iconst 0, 1) := by decide +kernel
theorem dX2_copyFrom_10 : decode cX2_copyFrom 10 = .ok (.bipush 8, 2) := by decide +kernel
theorem dX2_copyFrom_12 : decode cX2_copyFrom 12 = .ok (.invokestatic 33, 3) := by decide +kernel
theorem dX2_copyFrom_15 : decode cX2_copyFrom 15 = .ok (.aload_n 1, 1) := by decide +kernel
theorem dX2_copyFrom_16 : decode cX2_copyFrom 16 = .ok (.getfield 15, 3) := by decide +kernel
theorem dX2_copyFrom_19 : decode cX2_copyFrom 19 = .ok (.iconst 0, 1) := by decide +kernel
theorem dX2_copyFrom_20 : decode cX2_copyFrom 20 = .ok (.aload_n 0, 1) := by decide +kernel
theorem dX2_copyFrom_21 : decode cX2_copyFrom 21 = .ok (.getfield 15, 3) := by decide +kernel
theorem dX2_copyFrom_24 : decode cX2_copyFrom 24 = .ok (.iconst 0, 1) := by decide +kernel
theorem dX2_copyFrom_25 : decode cX2_copyFrom 25 = .ok (.bipush 8, 2) := by decide +kernel
theorem dX2_copyFrom_27 : decode cX2_copyFrom 27 = .ok (.invokestatic 33, 3) := by decide +kernel
theorem dX2_copyFrom_30 : decode cX2_copyFrom 30 = .ok (.aload_n 1, 1) := by decide +kernel
theorem dX2_copyFrom_31 : decode cX2_copyFrom 31 = .ok (.getfield 18, 3) := by decide +kernel
theorem dX2_copyFrom_34 : decode cX2_copyFrom 34 = .ok (.iconst 0, 1) := by decide +kernel
theorem dX2_copyFrom_35 : decode cX2_copyFrom 35 = .ok (.aload_n 0, 1) := by decide +kernel
theorem dX2_copyFrom_36 : decode cX2_copyFrom 36 = .ok (.getfield 18, 3) := by decide +kernel
theorem dX2_copyFrom_39 : decode cX2_copyFrom 39 = .ok (.iconst 0, 1) := by decide +kernel
theorem dX2_copyFrom_40 : decode cX2_copyFrom 40 = .ok (.bipush 8, 2) := by decide +kernel
theorem dX2_copyFrom_42 : decode cX2_copyFrom 42 = .ok (.invokestatic 33, 3) := by decide +kernel
theorem dX2_copyFrom_45 : decode cX2_copyFrom 45 = .ok (.aload_n 1, 1) := by decide +kernel
theorem dX2_copyFrom_46 : decode cX2_copyFrom 46 = .ok (.getfield 21, 3) := by decide +kernel
theorem dX2_copyFrom_49 : decode cX2_copyFrom 49 = .ok (.iconst 0, 1) := by decide +kernel
theorem dX2_copyFrom_50 : decode cX2_copyFrom 50 = .ok (.aload_n 0, 1) := by decide +kernel
theorem dX2_copyFrom_51 : decode cX2_copyFrom 51 = .ok (.getfield 21, 3) := by decide +kernel
theorem dX2_copyFrom_54 : decode cX2_copyFrom 54 = .ok (.iconst 0, 1) := by decide +kernel
theorem dX2_copyFrom_55 : decode cX2_copyFrom 55 = .ok (.bipush 8, 2) := by decide +kernel
theorem dX2_copyFrom_57 : decode cX2_copyFrom 57 = .ok (.invokestatic 33, 3) := by decide +kernel
theorem dX2_copyFrom_60 : decode cX2_copyFrom 60 = .ok (.aload_n 1, 1) := by decide +kernel
theorem dX2_copyFrom_61 : decode cX2_copyFrom 61 = .ok (.getfield 24, 3) := by decide +kernel
theorem dX2_copyFrom_64 : decode cX2_copyFrom 64 = .ok (.iconst 0, 1) := by decide +kernel
theorem dX2_copyFrom_65 : decode cX2_copyFrom 65 = .ok (.aload_n 0, 1) := by decide +kernel
theorem dX2_copyFrom_66 : decode cX2_copyFrom 66 = .ok (.getfield 24, 3) := by decide +kernel
theorem dX2_copyFrom_69 : decode cX2_copyFrom 69 = .ok (.iconst 0, 1) := by decide +kernel
theorem dX2_copyFrom_70 : decode cX2_copyFrom 70 = .ok (.bipush 8, 2) := by decide +kernel
theorem dX2_copyFrom_72 : decode cX2_copyFrom 72 = .ok (.invokestatic 33, 3) := by decide +kernel
theorem dX2_copyFrom_75 : decode cX2_copyFrom 75 = .ok (.aload_n 1, 1) := by decide +kernel
theorem dX2_copyFrom_76 : decode cX2_copyFrom 76 = .ok (.getfield 27, 3) := by decide +kernel
theorem dX2_copyFrom_79 : decode cX2_copyFrom 79 = .ok (.iconst 0, 1) := by decide +kernel
theorem dX2_copyFrom_80 : decode cX2_copyFrom 80 = .ok (.aload_n 0, 1) := by decide +kernel
theorem dX2_copyFrom_81 : decode cX2_copyFrom 81 = .ok (.getfield 27, 3) := by decide +kernel
theorem dX2_copyFrom_84 : decode cX2_copyFrom 84 = .ok (.iconst 0, 1) := by decide +kernel
theorem dX2_copyFrom_85 : decode cX2_copyFrom 85 = .ok (.iconst 3, 1) := by decide +kernel
theorem dX2_copyFrom_86 : decode cX2_copyFrom 86 = .ok (.invokestatic 33, 3) := by decide +kernel
theorem dX2_copyFrom_89 : decode cX2_copyFrom 89 = .ok (.aload_n 1, 1) := by decide +kernel
theorem dX2_copyFrom_90 : decode cX2_copyFrom 90 = .ok (.getfield 30, 3) := by decide +kernel
theorem dX2_copyFrom_93 : decode cX2_copyFrom 93 = .ok (.iconst 0, 1) := by decide +kernel
theorem dX2_copyFrom_94 : decode cX2_copyFrom 94 = .ok (.aload_n 0, 1) := by decide +kernel
theorem dX2_copyFrom_95 : decode cX2_copyFrom 95 = .ok (.getfield 30, 3) := by decide +kernel
theorem dX2_copyFrom_98 : decode cX2_copyFrom 98 = .ok (.iconst 0, 1) := by decide +kernel
theorem dX2_copyFrom_99 : decode cX2_copyFrom 99 = .ok (.bipush 120, 2) := by decide +kernel
theorem dX2_copyFrom_101 : decode cX2_copyFrom 101 = .ok (.invokestatic 33, 3) := by decide +kernel
theorem dX2_copyFrom_104 : decode cX2_copyFrom 104 = .ok (.aload_n 0, 1) := by decide +kernel
theorem dX2_copyFrom_105 : decode cX2_copyFrom 105 = .ok (.aload_n 1, 1) := by decide +kernel
theorem dX2_copyFrom_106 : decode cX2_copyFrom 106 = .ok (.getfield 39, 3) := by decide +kernel
theorem dX2_copyFrom_109 : decode cX2_copyFrom 109 = .ok (.putfield 39, 3) := by decide +kernel
theorem dX2_copyFrom_112 : decode cX2_copyFrom 112 = .ok (.aload_n 0, 1) := by decide +kernel
theorem dX2_copyFrom_113 : decode cX2_copyFrom 113 = .ok (.aload_n 1, 1) := by decide +kernel
theorem dX2_copyFrom_114 : decode cX2_copyFrom 114 = .ok (.getfield 43, 3) := by decide +kernel
theorem dX2_copyFrom_117 : decode cX2_copyFrom 117 = .ok (.putfield 43, 3) := by decide +kernel
theorem dX2_copyFrom_120 : decode cX2_copyFrom 120 = .ok (.aload_n 0, 1) := by decide +kernel
theorem dX2_copyFrom_121 : decode cX2_copyFrom 121 = .ok (.aload_n 1, 1) := by decide +kernel
theorem dX2_copyFrom_122 : decode cX2_copyFrom 122 = .ok (.getfield 46, 3) := by decide +kernel
theorem dX2_copyFrom_125 : decode cX2_copyFrom 125 = .ok (.putfield 46, 3) := by decide +kernel
theorem dX2_copyFrom_128 : decode cX2_copyFrom 128 = .ok (.aload_n 0, 1) := by decide +kernel
theorem dX2_copyFrom_129 : decode cX2_copyFrom 129 = .ok (.aload_n 1, 1) := by decide +kernel
theorem dX2_copyFrom_130 : decode cX2_copyFrom 130 = .ok (.getfield 49, 3) := by decide +kernel
theorem dX2_copyFrom_133 : decode cX2_copyFrom 133 = .ok (.putfield 49, 3) := by decide +kernel
theorem dX2_copyFrom_136 : decode cX2_copyFrom 136 = .ok (.aload_n 0, 1) := by decide +kernel
theorem dX2_copyFrom_137 : decode cX2_copyFrom 137 = .ok (.aload_n 1, 1) := by decide +kernel
theorem dX2_copyFrom_138 : decode cX2_copyFrom 138 = .ok (.getfield 52, 3) := by decide +kernel
theorem dX2_copyFrom_141 : decode cX2_copyFrom 141 = .ok (.putfield 52, 3) := by decide +kernel
theorem dX2_copyFrom_144 : decode cX2_copyFrom 144 = .ok (.aload_n 0, 1) := by decide +kernel
theorem dX2_copyFrom_145 : decode cX2_copyFrom 145 = .ok (.aload_n 1, 1) := by decide +kernel
theorem dX2_copyFrom_146 : decode cX2_copyFrom 146 = .ok (.getfield 55, 3) := by decide +kernel
theorem dX2_copyFrom_149 : decode cX2_copyFrom 149 = .ok (.putfield 55, 3) := by decide +kernel
theorem dX2_copyFrom_152 : decode cX2_copyFrom 152 = .ok (.return_, 1) := by decide +kernel
theorem dX2_hasRoomFor_0 : decode cX2_hasRoomFor 0 = .ok (.aload_n 0, 1) := by decide +kernel
theorem dX2_hasRoomFor_1 : decode cX2_hasRoomFor 1 = .ok (.getfield 39, 3) := by decide +kernel
theorem dX2_hasRoomFor_4 : decode cX2_hasRoomFor 4 = .ok (.iload_n 1, 1) := by decide +kernel
theorem dX2_hasRoomFor_5 : decode cX2_hasRoomFor 5 = .ok (.iadd, 1) := by decide +kernel
theorem dX2_hasRoomFor_6 : decode cX2_hasRoomFor 6 = .ok (.bipush 120, 2) := by decide +kernel
theorem dX2_hasRoomFor_8 : decode cX2_hasRoomFor 8 = .ok (.if_icmp .gt 7, 3) := by decide +kernel
theorem dX2_hasRoomFor_11 : decode cX2_hasRoomFor 11 = .ok (.iconst 1, 1) := by decide +kernel
theorem dX2_hasRoomFor_12 : decode cX2_hasRoomFor 12 = .ok (.goto 4, 3) := by decide +kernel
theorem dX2_hasRoomFor_15 : decode cX2_hasRoomFor 15 = .ok (.iconst 0, 1) := by decide +kernel
theorem dX2_hasRoomFor_16 : decode cX2_hasRoomFor 16 = .ok (.ireturn, 1) := by decide +kernel
theorem dX2_addPulse_0 : decode cX2_addPulse 0 = .ok (.aload_n 0, 1) := by decide +kernel
theorem dX2_addPulse_1 : decode cX2_addPulse 1 = .ok (.getfield 39, 3) := by decide +kernel
theorem dX2_addPulse_4 : decode cX2_addPulse 4 = .ok (.ifCond .lt 32, 3) := by decide +kernel
theorem dX2_addPulse_7 : decode cX2_addPulse 7 = .ok (.aload_n 0, 1) := by decide +kernel
theorem dX2_addPulse_8 : decode cX2_addPulse 8 = .ok (.getfield 39, 3) := by decide +kernel
theorem dX2_addPulse_11 : decode cX2_addPulse 11 = .ok (.bipush 120, 2) := by decide +kernel
theorem dX2_addPulse_13 : decode cX2_addPulse 13 = .ok (.if_icmp .ge 23, 3) := by decide +kernel
theorem dX2_addPulse_16 : decode cX2_addPulse 16 = .ok (.aload_n 0, 1) := by decide +kernel
theorem dX2_addPulse_17 : decode cX2_addPulse 17 = .ok (.getfield 30, 3) := by decide +kernel
theorem dX2_addPulse_20 : decode cX2_addPulse 20 = .ok (.aload_n 0, 1) := by decide +kernel
theorem dX2_addPulse_21 : decode cX2_addPulse 21 = .ok (.getfield 39, 3) := by decide +kernel
theorem dX2_addPulse_24 : decode cX2_addPulse 24 = .ok (.iload_n 1, 1) := by decide +kernel
theorem dX2_addPulse_25 : decode cX2_addPulse 25 = .ok (.iastore, 1) := by decide +kernel
theorem dX2_addPulse_26 : decode cX2_addPulse 26 = .ok (.aload_n 0, 1) := by decide +kernel
theorem dX2_addPulse_27 : decode cX2_addPulse 27 = .ok (.dup, 1) := by decide +kernel
theorem dX2_addPulse_28 : decode cX2_addPulse 28 = .ok (.getfield 39, 3) := by decide +kernel
theorem dX2_addPulse_31 : decode cX2_addPulse 31 = .ok (.iconst 1, 1) := by decide +kernel
theorem dX2_addPulse_32 : decode cX2_addPulse 32 = .ok (.iadd, 1) := by decide +kernel
theorem dX2_addPulse_33 : decode cX2_addPulse 33 = .ok (.putfield 39, 3) := by decide +kernel
theorem dX2_addPulse_36 : decode cX2_addPulse 36 = .ok (.return_, 1) := by decide +kernel
set_option maxRecDepth 20000 in
theorem ggX2_addWord_X2_lengthFor : GoodIn wsX2_addWord wsX2_lengthFor := goodIn_r _ [4] (by decide +kernel) (by decide +kernel)
set_option maxRecDepth 20000 in
theorem gX2_addWord_X2_lengthFor : GoodIn wsX2_addWord (va_wsS RX2 58 yX2_lengthFor wsX2_lengthFor) := goodIn_app (goodIn_of _ (by decide +kernel)) ggX2_addWord_X2_lengthFor
set_option maxRecDepth 20000 in
theorem ggX2_addWord_X2_addPulse : GoodIn wsX2_addWord wsX2_addPulse := goodIn_r _ [8, 9, 10, 11, 12, 13, 14, 15, 16, 17, 18, 19, 20, 21, 22, 23] (by decide +kernel) (by decide +kernel)
set_option maxRecDepth 20000 in
theorem gX2_addWord_X2_addPulse : GoodIn wsX2_addWord (wsV RX2 62 RX2 yX2_addPulse wsX2_addPulse) := goodIn_app (goodIn_of _ (by decide +kernel)) ggX2_addWord_X2_addPulse
theorem dX2_addWord_0 : decode cX2_addWord 0 = .ok (.bipush 11, 2) := by decide +kernel
theorem dX2_addWord_2 : decode cX2_addWord 2 = .ok (.istore_n 2, 1) := by decide +kernel
theorem dX2_addWord_3 : decode cX2_addWord 3 = .ok (.iload_n 2, 1) := by decide +kernel
theorem dX2_addWord_4 : decode cX2_addWord 4 = .ok (.ifCond .lt 30, 3) := by decide +kernel
theorem dX2_addWord_7 : decode cX2_addWord 7 = .ok (.aload_n 0, 1) := by decide +kernel
theorem dX2_addWord_8 : decode cX2_addWord 8 = .ok (.iload_n 1, 1) := by decide +kernel
theorem dX2_addWord_9 : decode cX2_addWord 9 = .ok (.iload_n 2, 1) := by decide +kernel
theorem dX2_addWord_10 : decode cX2_addWord 10 = .ok (.ishr, 1) := by decide +kernel
theorem dX2_addWord_11 : decode cX2_addWord 11 = .ok (.iconst 1, 1) := by decide +kernel
theorem dX2_addWord_12 : decode cX2_addWord 12 = .ok (.iand, 1) := by decide +kernel
theorem dX2_addWord_13 : decode cX2_addWord 13 = .ok (.iconst 1, 1) := by decide +kernel
theorem dX2_addWord_14 : decode cX2_addWord 14 = .ok (.if_icmp .ne 7, 3) := by decide +kernel
theorem dX2_addWord_17 : decode cX2_addWord 17 = .ok (.iconst 1, 1) := by decide +kernel
theorem dX2_addWord_18 : decode cX2_addWord 18 = .ok (.goto 4, 3) := by decide +kernel
theorem dX2_addWord_21 : decode cX2_addWord 21 = .ok (.iconst 0, 1) := by decide +kernel
theorem dX2_addWord_22 : decode cX2_addWord 22 = .ok (.invokestatic 58, 3) := by decide +kernel
theorem dX2_addWord_25 : decode cX2_addWord 25 = .ok (.invokevirtual 62, 3) := by decide +kernel
theorem dX2_addWord_28 : decode cX2_addWord 28 = .ok (.iinc 2 (-1), 3) := by decide +kernel
theorem dX2_addWord_31 : decode cX2_addWord 31 = .ok (.goto (-28), 3) := by decide +kernel
theorem dX2_addWord_34 : decode cX2_addWord 34 = .ok (.return_, 1) := by decide +kernel
theorem dX2_takesWords_0 : decode cX2_takesWords 0 = .ok (.aload_n 0, 1) := by decide +kernel
theorem dX2_takesWords_1 : decode cX2_takesWords 1 = .ok (.getfield 9, 3) := by decide +kernel
theorem dX2_takesWords_4 : decode cX2_takesWords 4 = .ok (.iload_n 1, 1) := by decide +kernel
theorem dX2_takesWords_5 : decode cX2_takesWords 5 = .ok (.iaload, 1) := by decide +kernel
theorem dX2_takesWords_6 : decode cX2_takesWords 6 = .ok (.ifCond .eq 13, 3) := by decide +kernel
theorem dX2_takesWords_9 : decode cX2_takesWords 9 = .ok (.aload_n 0, 1) := by decide +kernel
theorem dX2_takesWords_10 : decode cX2_takesWords 10 = .ok (.getfield 9, 3) := by decide +kernel
theorem dX2_takesWords_13 : decode cX2_takesWords 13 = .ok (.iload_n 1, 1) := by decide +kernel
theorem dX2_takesWords_14 : decode cX2_takesWords 14 = .ok (.iaload, 1) := by decide +kernel
theorem dX2_takesWords_15 : decode cX2_takesWords 15 = .ok (.iconst 1, 1) := by decide +kernel
theorem dX2_takesWords_16 : decode cX2_takesWords 16 = .ok (.if_icmp .ne 7, 3) := by decide +kernel
theorem dX2_takesWords_19 : decode cX2_takesWords 19 = .ok (.iconst 1, 1) := by decide +kernel
theorem dX2_takesWords_20 : decode cX2_takesWords 20 = .ok (.goto 4, 3) := by decide +kernel
theorem dX2_takesWords_23 : decode cX2_takesWords 23 = .ok (.iconst 0, 1) := by decide +kernel
theorem dX2_takesWords_24 : decode cX2_takesWords 24 = .ok (.ireturn, 1) := by decide +kernel
theorem dX2_isReadAs1_0 : decode cX2_isReadAs1 0 = .ok (.iload_n 1, 1) := by decide +kernel
theorem dX2_isReadAs1_1 : decode cX2_isReadAs1 1 = .ok (.aload_n 0, 1) := by decide +kernel
theorem dX2_isReadAs1_2 : decode cX2_isReadAs1 2 = .ok (.getfield 27, 3) := by decide +kernel
theorem dX2_isReadAs1_5 : decode cX2_isReadAs1 5 = .ok (.iconst 0, 1) := by decide +kernel
theorem dX2_isReadAs1_6 : decode cX2_isReadAs1 6 = .ok (.iaload, 1) := by decide +kernel
theorem dX2_isReadAs1_7 : decode cX2_isReadAs1 7 = .ok (.if_icmp .lt 7, 3) := by decide +kernel
theorem dX2_isReadAs1_10 : decode cX2_isReadAs1 10 = .ok (.iconst 1, 1) := by decide +kernel
theorem dX2_isReadAs1_11 : decode cX2_isReadAs1 11 = .ok (.goto 4, 3) := by decide +kernel
theorem dX2_isReadAs1_14 : decode cX2_isReadAs1 14 = .ok (.iconst 0, 1) := by decide +kernel
theorem dX2_isReadAs1_15 : decode cX2_isReadAs1 15 = .ok (.ireturn, 1) := by decide +kernel
set_option maxRecDepth 20000 in
theorem ggX2_handedOn_X2_isReadAs1 : GoodIn wsX2_handedOn wsX2_isReadAs1 := goodIn_r _ [6, 1, 10, 11, 12, 13, 14, 15, 16, 17, 18, 19, 20, 21, 22] (by decide +kernel) (by decide +kernel)
set_option maxRecDepth 20000 in
theorem gX2_handedOn_X2_isReadAs1 : GoodIn wsX2_handedOn (wsV RX2 66 RX2 yX2_isReadAs1 wsX2_isReadAs1) := goodIn_app (goodIn_of _ (by decide +kernel)) ggX2_handedOn_X2_isReadAs1
set_option maxRecDepth 20000 in
theorem ggX2_handedOn_X2_lengthFor : GoodIn wsX2_handedOn wsX2_lengthFor := goodIn_r _ [9] (by decide +kernel) (by decide +kernel)
set_option maxRecDepth 20000 in
theorem gX2_handedOn_X2_lengthFor : GoodIn wsX2_handedOn (va_wsS RX2 58 yX2_lengthFor wsX2_lengthFor) := goodIn_app (goodIn_of _ (by decide +kernel)) ggX2_handedOn_X2_lengthFor
theorem dX2_handedOn_0 : decode cX2_handedOn 0 = .ok (.aload_n 0, 1) := by decide +kernel
theorem dX2_handedOn_1 : decode cX2_handedOn 1 = .ok (.getfield 27, 3) := by decide +kernel
theorem dX2_handedOn_4 : decode cX2_handedOn 4 = .ok (.iconst 1, 1) := by decide +kernel
theorem dX2_handedOn_5 : decode cX2_handedOn 5 = .ok (.iaload, 1) := by decide +kernel
theorem dX2_handedOn_6 : decode cX2_handedOn 6 = .ok (.iconst 1, 1) := by decide +kernel
theorem dX2_handedOn_7 : decode cX2_handedOn 7 = .ok (.if_icmp .ne 14, 3) := by decide +kernel
theorem dX2_handedOn_10 : decode cX2_handedOn 10 = .ok (.aload_n 0, 1) := by decide +kernel
theorem dX2_handedOn_11 : decode cX2_handedOn 11 = .ok (.iload_n 1, 1) := by decide +kernel
theorem dX2_handedOn_12 : decode cX2_handedOn 12 = .ok (.invokevirtual 66, 3) := by decide +kernel
theorem dX2_handedOn_15 : decode cX2_handedOn 15 = .ok (.invokestatic 58, 3) := by decide +kernel
theorem dX2_handedOn_18 : decode cX2_handedOn 18 = .ok (.goto 4, 3) := by decide +kernel
theorem dX2_handedOn_21 : decode cX2_handedOn 21 = .ok (.iload_n 1, 1) := by decide +kernel
theorem dX2_handedOn_22 : decode cX2_handedOn 22 = .ok (.ireturn, 1) := by decide +kernel
theorem dX2_lengthFor_0 : decode cX2_lengthFor 0 = .ok (.iload_n 0, 1) := by decide +kernel
theorem dX2_lengthFor_1 : decode cX2_lengthFor 1 = .ok (.ifCond .eq 8, 3) := by decide +kernel
theorem dX2_lengthFor_4 : decode cX2_lengthFor 4 = .ok (.bipush 8, 2) := by decide +kernel
theorem dX2_lengthFor_6 : decode cX2_lengthFor 6 = .ok (.goto 4, 3) := by decide +kernel
theorem dX2_lengthFor_9 : decode cX2_lengthFor 9 = .ok (.iconst 4, 1) := by decide +kernel
theorem dX2_lengthFor_10 : decode cX2_lengthFor 10 = .ok (.ireturn, 1) := by decide +kernel
theorem dX2_shortened_0 : decode cX2_shortened 0 = .ok (.iload_n 0, 1) := by decide +kernel
theorem dX2_shortened_1 : decode cX2_shortened 1 = .ok (.iload_n 1, 1) := by decide +kernel
theorem dX2_shortened_2 : decode cX2_shortened 2 = .ok (.isub, 1) := by decide +kernel
theorem dX2_shortened_3 : decode cX2_shortened 3 = .ok (.iconst 1, 1) := by decide +kernel
theorem dX2_shortened_4 : decode cX2_shortened 4 = .ok (.if_icmp .ge 7, 3) := by decide +kernel
theorem dX2_shortened_7 : decode cX2_shortened 7 = .ok (.iconst 1, 1) := by decide +kernel
theorem dX2_shortened_8 : decode cX2_shortened 8 = .ok (.goto 6, 3) := by decide +kernel
theorem dX2_shortened_11 : decode cX2_shortened 11 = .ok (.iload_n 0, 1) := by decide +kernel
theorem dX2_shortened_12 : decode cX2_shortened 12 = .ok (.iload_n 1, 1) := by decide +kernel
theorem dX2_shortened_13 : decode cX2_shortened 13 = .ok (.isub, 1) := by decide +kernel
theorem dX2_shortened_14 : decode cX2_shortened 14 = .ok (.ireturn, 1) := by decide +kernel
theorem dX2_brightnessOf_0 : decode cX2_brightnessOf 0 = .ok (.iload_n 0, 1) := by decide +kernel
theorem dX2_brightnessOf_1 : decode cX2_brightnessOf 1 = .ok (.bipush 8, 2) := by decide +kernel
theorem dX2_brightnessOf_3 : decode cX2_brightnessOf 3 = .ok (.iconst 4, 1) := by decide +kernel
theorem dX2_brightnessOf_4 : decode cX2_brightnessOf 4 = .ok (.iload_n 1, 1) := by decide +kernel
theorem dX2_brightnessOf_5 : decode cX2_brightnessOf 5 = .ok (.imul, 1) := by decide +kernel
theorem dX2_brightnessOf_6 : decode cX2_brightnessOf 6 = .ok (.isub, 1) := by decide +kernel
theorem dX2_brightnessOf_7 : decode cX2_brightnessOf 7 = .ok (.ishr, 1) := by decide +kernel
theorem dX2_brightnessOf_8 : decode cX2_brightnessOf 8 = .ok (.bipush 15, 2) := by decide +kernel
theorem dX2_brightnessOf_10 : decode cX2_brightnessOf 10 = .ok (.iand, 1) := by decide +kernel
theorem dX2_brightnessOf_11 : decode cX2_brightnessOf 11 = .ok (.ireturn, 1) := by decide +kernel
set_option maxRecDepth 20000 in
theorem ggX2_currentWanted_X2_brightnessOf : GoodIn wsX2_currentWanted wsX2_brightnessOf := goodIn_r _ [5] (by decide +kernel) (by decide +kernel)
set_option maxRecDepth 20000 in
theorem gX2_currentWanted_X2_brightnessOf : GoodIn wsX2_currentWanted (va_wsS RX2 70 yX2_brightnessOf wsX2_brightnessOf) := goodIn_app (goodIn_of _ (by decide +kernel)) ggX2_currentWanted_X2_brightnessOf
theorem dX2_currentWanted_0 : decode cX2_currentWanted 0 = .ok (.iconst 0, 1) := by decide +kernel
theorem dX2_currentWanted_1 : decode cX2_currentWanted 1 = .ok (.istore_n 1, 1) := by decide +kernel
theorem dX2_currentWanted_2 : decode cX2_currentWanted 2 = .ok (.iconst 0, 1) := by decide +kernel
theorem dX2_currentWanted_3 : decode cX2_currentWanted 3 = .ok (.istore_n 2, 1) := by decide +kernel
theorem dX2_currentWanted_4 : decode cX2_currentWanted 4 = .ok (.iload_n 2, 1) := by decide +kernel
theorem dX2_currentWanted_5 : decode cX2_currentWanted 5 = .ok (.bipush 8, 2) := by decide +kernel
theorem dX2_currentWanted_7 : decode cX2_currentWanted 7 = .ok (.if_icmp .ge 35, 3) := by decide +kernel
theorem dX2_currentWanted_10 : decode cX2_currentWanted 10 = .ok (.iconst 0, 1) := by decide +kernel
theorem dX2_currentWanted_11 : decode cX2_currentWanted 11 = .ok (.istore_n 3, 1) := by decide +kernel
theorem dX2_currentWanted_12 : decode cX2_currentWanted 12 = .ok (.iload_n 3, 1) := by decide +kernel
theorem dX2_currentWanted_13 : decode cX2_currentWanted 13 = .ok (.iconst 3, 1) := by decide +kernel
theorem dX2_currentWanted_14 : decode cX2_currentWanted 14 = .ok (.if_icmp .ge 22, 3) := by decide +kernel
theorem dX2_currentWanted_17 : decode cX2_currentWanted 17 = .ok (.iload_n 1, 1) := by decide +kernel
theorem dX2_currentWanted_18 : decode cX2_currentWanted 18 = .ok (.aload_n 0, 1) := by decide +kernel
theorem dX2_currentWanted_19 : decode cX2_currentWanted 19 = .ok (.getfield 21, 3) := by decide +kernel
theorem dX2_currentWanted_22 : decode cX2_currentWanted 22 = .ok (.iload_n 2, 1) := by decide +kernel
theorem dX2_currentWanted_23 : decode cX2_currentWanted 23 = .ok (.iaload, 1) := by decide +kernel
theorem dX2_currentWanted_24 : decode cX2_currentWanted 24 = .ok (.iload_n 3, 1) := by decide +kernel
theorem dX2_currentWanted_25 : decode cX2_currentWanted 25 = .ok (.invokestatic 70, 3) := by decide +kernel
theorem dX2_currentWanted_28 : decode cX2_currentWanted 28 = .ok (.iadd, 1) := by decide +kernel
theorem dX2_currentWanted_29 : decode cX2_currentWanted 29 = .ok (.istore_n 1, 1) := by decide +kernel
theorem dX2_currentWanted_30 : decode cX2_currentWanted 30 = .ok (.iinc 3 1, 3) := by decide +kernel
theorem dX2_currentWanted_33 : decode cX2_currentWanted 33 = .ok (.goto (-21), 3) := by decide +kernel
theorem dX2_currentWanted_36 : decode cX2_currentWanted 36 = .ok (.iinc 2 1, 3) := by decide +kernel
theorem dX2_currentWanted_39 : decode cX2_currentWanted 39 = .ok (.goto (-35), 3) := by decide +kernel
theorem dX2_currentWanted_42 : decode cX2_currentWanted 42 = .ok (.iload_n 1, 1) := by decide +kernel
theorem dX2_currentWanted_43 : decode cX2_currentWanted 43 = .ok (.ireturn, 1) := by decide +kernel
theorem dX2_shown_0 : decode cX2_shown 0 = .ok (.iload_n 2, 1) := by decide +kernel
theorem dX2_shown_1 : decode cX2_shown 1 = .ok (.ifCond .le 13, 3) := by decide +kernel
theorem dX2_shown_4 : decode cX2_shown 4 = .ok (.iload_n 2, 1) := by decide +kernel
theorem dX2_shown_5 : decode cX2_shown 5 = .ok (.aload_n 0, 1) := by decide +kernel
theorem dX2_shown_6 : decode cX2_shown 6 = .ok (.getfield 27, 3) := by decide +kernel
theorem dX2_shown_9 : decode cX2_shown 9 = .ok (.iconst 2, 1) := by decide +kernel
theorem dX2_shown_10 : decode cX2_shown 10 = .ok (.iaload, 1) := by decide +kernel
theorem dX2_shown_11 : decode cX2_shown 11 = .ok (.if_icmp .gt 5, 3) := by decide +kernel
theorem dX2_shown_14 : decode cX2_shown 14 = .ok (.iload_n 1, 1) := by decide +kernel
theorem dX2_shown_15 : decode cX2_shown 15 = .ok (.ireturn, 1) := by decide +kernel
theorem dX2_shown_16 : decode cX2_shown 16 = .ok (.iload_n 1, 1) := by decide +kernel
theorem dX2_shown_17 : decode cX2_shown 17 = .ok (.aload_n 0, 1) := by decide +kernel
theorem dX2_shown_18 : decode cX2_shown 18 = .ok (.getfield 27, 3) := by decide +kernel
theorem dX2_shown_21 : decode cX2_shown 21 = .ok (.iconst 2, 1) := by decide +kernel
theorem dX2_shown_22 : decode cX2_shown 22 = .ok (.iaload, 1) := by decide +kernel
theorem dX2_shown_23 : decode cX2_shown 23 = .ok (.imul, 1) := by decide +kernel
theorem dX2_shown_24 : decode cX2_shown 24 = .ok (.iload_n 2, 1) := by decide +kernel
theorem dX2_shown_25 : decode cX2_shown 25 = .ok (.idiv, 1) := by decide +kernel
theorem dX2_shown_26 : decode cX2_shown 26 = .ok (.ireturn, 1) := by decide +kernel
set_option maxRecDepth 20000 in
theorem ggX2_shownTogether_X2_currentWanted : GoodIn wsX2_shownTogether wsX2_currentWanted := goodIn_r _ [6, 1, 7, 8, 5, 9, 15, 16, 17, 18, 19, 20, 21, 22, 23, 24, 25, 26, 27] (by decide +kernel) (by decide +kernel)
set_option maxRecDepth 20000 in
theorem gX2_shownTogether_X2_currentWanted : GoodIn wsX2_shownTogether (wsV RX2 74 RX2 yX2_currentWanted wsX2_currentWanted) := goodIn_app (goodIn_of _ (by decide +kernel)) ggX2_shownTogether_X2_currentWanted
set_option maxRecDepth 20000 in
theorem ggX2_shownTogether_X2_brightnessOf : GoodIn wsX2_shownTogether wsX2_brightnessOf := goodIn_r _ [9] (by decide +kernel) (by decide +kernel)
set_option maxRecDepth 20000 in
theorem gX2_shownTogether_X2_brightnessOf : GoodIn wsX2_shownTogether (va_wsS RX2 70 yX2_brightnessOf wsX2_brightnessOf) := goodIn_app (goodIn_of _ (by decide +kernel)) ggX2_shownTogether_X2_brightnessOf
set_option maxRecDepth 20000 in
theorem ggX2_shownTogether_X2_shown : GoodIn wsX2_shownTogether wsX2_shown := goodIn_r _ [13, 14, 15, 16, 17, 18, 19, 20, 21, 22, 23, 24, 25, 26, 27] (by decide +kernel) (by decide +kernel)
set_option maxRecDepth 20000 in
theorem gX2_shownTogether_X2_shown : GoodIn wsX2_shownTogether (wsV RX2 78 RX2 yX2_shown wsX2_shown) := goodIn_app (goodIn_of _ (by decide +kernel)) ggX2_shownTogether_X2_shown
theorem dX2_shownTogether_0 : decode cX2_shownTogether 0 = .ok (.aload_n 0, 1) := by decide +kernel
theorem dX2_shownTogether_1 : decode cX2_shownTogether 1 = .ok (.invokevirtual 74, 3) := by decide +kernel
theorem dX2_shownTogether_4 : decode cX2_shownTogether 4 = .ok (.istore_n 1, 1) := by decide +kernel
theorem dX2_shownTogether_5 : decode cX2_shownTogether 5 = .ok (.iconst 0, 1) := by decide +kernel
theorem dX2_shownTogether_6 : decode cX2_shownTogether 6 = .ok (.istore_n 2, 1) := by decide +kernel
theorem dX2_shownTogether_7 : decode cX2_shownTogether 7 = .ok (.iconst 0, 1) := by decide +kernel
theorem dX2_shownTogether_8 : decode cX2_shownTogether 8 = .ok (.istore_n 3, 1) := by decide +kernel
theorem dX2_shownTogether_9 : decode cX2_shownTogether 9 = .ok (.iload_n 3, 1) := by decide +kernel
theorem dX2_shownTogether_10 : decode cX2_shownTogether 10 = .ok (.bipush 8, 2) := by decide +kernel
theorem dX2_shownTogether_12 : decode cX2_shownTogether 12 = .ok (.if_icmp .ge 43, 3) := by decide +kernel
theorem dX2_shownTogether_15 : decode cX2_shownTogether 15 = .ok (.iconst 0, 1) := by decide +kernel
theorem dX2_shownTogether_16 : decode cX2_shownTogether 16 = .ok (.istore 4, 2) := by decide +kernel
theorem dX2_shownTogether_18 : decode cX2_shownTogether 18 = .ok (.iload 4, 2) := by decide +kernel
theorem dX2_shownTogether_20 : decode cX2_shownTogether 20 = .ok (.iconst 3, 1) := by decide +kernel
theorem dX2_shownTogether_21 : decode cX2_shownTogether 21 = .ok (.if_icmp .ge 28, 3) := by decide +kernel
theorem dX2_shownTogether_24 : decode cX2_shownTogether 24 = .ok (.iload_n 2, 1) := by decide +kernel
theorem dX2_shownTogether_25 : decode cX2_shownTogether 25 = .ok (.aload_n 0, 1) := by decide +kernel
theorem dX2_shownTogether_26 : decode cX2_shownTogether 26 = .ok (.aload_n 0, 1) := by decide +kernel
theorem dX2_shownTogether_27 : decode cX2_shownTogether 27 = .ok (.getfield 21, 3) := by decide +kernel
theorem dX2_shownTogether_30 : decode cX2_shownTogether 30 = .ok (.iload_n 3, 1) := by decide +kernel
theorem dX2_shownTogether_31 : decode cX2_shownTogether 31 = .ok (.iaload, 1) := by decide +kernel
theorem dX2_shownTogether_32 : decode cX2_shownTogether 32 = .ok (.iload 4, 2) := by decide +kernel
theorem dX2_shownTogether_34 : decode cX2_shownTogether 34 = .ok (.invokestatic 70, 3) := by decide +kernel
theorem dX2_shownTogether_37 : decode cX2_shownTogether 37 = .ok (.iload_n 1, 1) := by decide +kernel
theorem dX2_shownTogether_38 : decode cX2_shownTogether 38 = .ok (.invokevirtual 78, 3) := by decide +kernel
theorem dX2_shownTogether_41 : decode cX2_shownTogether 41 = .ok (.iadd, 1) := by decide +kernel
theorem dX2_shownTogether_42 : decode cX2_shownTogether 42 = .ok (.istore_n 2, 1) := by decide +kernel
theorem dX2_shownTogether_43 : decode cX2_shownTogether 43 = .ok (.iinc 4 1, 3) := by decide +kernel
theorem dX2_shownTogether_46 : decode cX2_shownTogether 46 = .ok (.goto (-28), 3) := by decide +kernel
theorem dX2_shownTogether_49 : decode cX2_shownTogether 49 = .ok (.iinc 3 1, 3) := by decide +kernel
theorem dX2_shownTogether_52 : decode cX2_shownTogether 52 = .ok (.goto (-43), 3) := by decide +kernel
theorem dX2_shownTogether_55 : decode cX2_shownTogether 55 = .ok (.iload_n 2, 1) := by decide +kernel
theorem dX2_shownTogether_56 : decode cX2_shownTogether 56 = .ok (.ireturn, 1) := by decide +kernel
theorem dX2_lampsThatShine_0 : decode cX2_lampsThatShine 0 = .ok (.iconst 0, 1) := by decide +kernel
theorem dX2_lampsThatShine_1 : decode cX2_lampsThatShine 1 = .ok (.istore_n 1, 1) := by decide +kernel
theorem dX2_lampsThatShine_2 : decode cX2_lampsThatShine 2 = .ok (.iconst 0, 1) := by decide +kernel
theorem dX2_lampsThatShine_3 : decode cX2_lampsThatShine 3 = .ok (.istore_n 2, 1) := by decide +kernel
theorem dX2_lampsThatShine_4 : decode cX2_lampsThatShine 4 = .ok (.iload_n 2, 1) := by decide +kernel
theorem dX2_lampsThatShine_5 : decode cX2_lampsThatShine 5 = .ok (.bipush 8, 2) := by decide +kernel
theorem dX2_lampsThatShine_7 : decode cX2_lampsThatShine 7 = .ok (.if_icmp .ge 21, 3) := by decide +kernel
theorem dX2_lampsThatShine_10 : decode cX2_lampsThatShine 10 = .ok (.aload_n 0, 1) := by decide +kernel
theorem dX2_lampsThatShine_11 : decode cX2_lampsThatShine 11 = .ok (.getfield 21, 3) := by decide +kernel
theorem dX2_lampsThatShine_14 : decode cX2_lampsThatShine 14 = .ok (.iload_n 2, 1) := by decide +kernel
theorem dX2_lampsThatShine_15 : decode cX2_lampsThatShine 15 = .ok (.iaload, 1) := by decide +kernel
theorem dX2_lampsThatShine_16 : decode cX2_lampsThatShine 16 = .ok (.ifCond .eq 6, 3) := by decide +kernel
theorem dX2_lampsThatShine_19 : decode cX2_lampsThatShine 19 = .ok (.iinc 1 1, 3) := by decide +kernel
theorem dX2_lampsThatShine_22 : decode cX2_lampsThatShine 22 = .ok (.iinc 2 1, 3) := by decide +kernel
theorem dX2_lampsThatShine_25 : decode cX2_lampsThatShine 25 = .ok (.goto (-21), 3) := by decide +kernel
theorem dX2_lampsThatShine_28 : decode cX2_lampsThatShine 28 = .ok (.iload_n 1, 1) := by decide +kernel
theorem dX2_lampsThatShine_29 : decode cX2_lampsThatShine 29 = .ok (.ireturn, 1) := by decide +kernel
set_option maxRecDepth 20000 in
theorem ggX2_wordsUpTo_X2_takesWords : GoodIn wsX2_wordsUpTo wsX2_takesWords := goodIn_r _ [6, 1, 7, 8, 9, 10, 11, 12, 13, 14, 15, 16, 17, 18, 19] (by decide +kernel) (by decide +kernel)
set_option maxRecDepth 20000 in
theorem gX2_wordsUpTo_X2_takesWords : GoodIn wsX2_wordsUpTo (wsV RX2 81 RX2 yX2_takesWords wsX2_takesWords) := goodIn_app (goodIn_of _ (by decide +kernel)) ggX2_wordsUpTo_X2_takesWords
theorem dX2_wordsUpTo_0 : decode cX2_wordsUpTo 0 = .ok (.aload_n 0, 1) := by decide +kernel
theorem dX2_wordsUpTo_1 : decode cX2_wordsUpTo 1 = .ok (.iload_n 1, 1) := by decide +kernel
theorem dX2_wordsUpTo_2 : decode cX2_wordsUpTo 2 = .ok (.invokevirtual 81, 3) := by decide +kernel
theorem dX2_wordsUpTo_5 : decode cX2_wordsUpTo 5 = .ok (.ifCond .ne 5, 3) := by decide +kernel
theorem dX2_wordsUpTo_8 : decode cX2_wordsUpTo 8 = .ok (.iconst (-1), 1) := by decide +kernel
theorem dX2_wordsUpTo_9 : decode cX2_wordsUpTo 9 = .ok (.ireturn, 1) := by decide +kernel
theorem dX2_wordsUpTo_10 : decode cX2_wordsUpTo 10 = .ok (.iconst 1, 1) := by decide +kernel
theorem dX2_wordsUpTo_11 : decode cX2_wordsUpTo 11 = .ok (.istore_n 2, 1) := by decide +kernel
theorem dX2_wordsUpTo_12 : decode cX2_wordsUpTo 12 = .ok (.iconst 0, 1) := by decide +kernel
theorem dX2_wordsUpTo_13 : decode cX2_wordsUpTo 13 = .ok (.istore_n 3, 1) := by decide +kernel
theorem dX2_wordsUpTo_14 : decode cX2_wordsUpTo 14 = .ok (.iload_n 3, 1) := by decide +kernel
theorem dX2_wordsUpTo_15 : decode cX2_wordsUpTo 15 = .ok (.iload_n 1, 1) := by decide +kernel
theorem dX2_wordsUpTo_16 : decode cX2_wordsUpTo 16 = .ok (.if_icmp .ge 32, 3) := by decide +kernel
theorem dX2_wordsUpTo_19 : decode cX2_wordsUpTo 19 = .ok (.aload_n 0, 1) := by decide +kernel
theorem dX2_wordsUpTo_20 : decode cX2_wordsUpTo 20 = .ok (.getfield 9, 3) := by decide +kernel
theorem dX2_wordsUpTo_23 : decode cX2_wordsUpTo 23 = .ok (.iload_n 3, 1) := by decide +kernel
theorem dX2_wordsUpTo_24 : decode cX2_wordsUpTo 24 = .ok (.iaload, 1) := by decide +kernel
theorem dX2_wordsUpTo_25 : decode cX2_wordsUpTo 25 = .ok (.iconst 2, 1) := by decide +kernel
theorem dX2_wordsUpTo_26 : decode cX2_wordsUpTo 26 = .ok (.if_icmp .ne 5, 3) := by decide +kernel
theorem dX2_wordsUpTo_29 : decode cX2_wordsUpTo 29 = .ok (.iconst (-1), 1) := by decide +kernel
theorem dX2_wordsUpTo_30 : decode cX2_wordsUpTo 30 = .ok (.ireturn, 1) := by decide +kernel
theorem dX2_wordsUpTo_31 : decode cX2_wordsUpTo 31 = .ok (.aload_n 0, 1) := by decide +kernel
theorem dX2_wordsUpTo_32 : decode cX2_wordsUpTo 32 = .ok (.iload_n 3, 1) := by decide +kernel
theorem dX2_wordsUpTo_33 : decode cX2_wordsUpTo 33 = .ok (.invokevirtual 81, 3) := by decide +kernel
theorem dX2_wordsUpTo_36 : decode cX2_wordsUpTo 36 = .ok (.ifCond .eq 6, 3) := by decide +kernel
theorem dX2_wordsUpTo_39 : decode cX2_wordsUpTo 39 = .ok (.iinc 2 1, 3) := by decide +kernel
theorem dX2_wordsUpTo_42 : decode cX2_wordsUpTo 42 = .ok (.iinc 3 1, 3) := by decide +kernel
theorem dX2_wordsUpTo_45 : decode cX2_wordsUpTo 45 = .ok (.goto (-31), 3) := by decide +kernel
theorem dX2_wordsUpTo_48 : decode cX2_wordsUpTo 48 = .ok (.iload_n 2, 1) := by decide +kernel
theorem dX2_wordsUpTo_49 : decode cX2_wordsUpTo 49 = .ok (.ireturn, 1) := by decide +kernel
set_option maxRecDepth 20000 in
theorem ggX2_wordByPlace_X2_wordsUpTo : GoodIn wsX2_wordByPlace wsX2_wordsUpTo := goodIn_r _ [8, 9, 10, 11, 12, 7, 13, 34, 35, 36, 37, 38, 39, 40, 41, 42, 43, 44, 45, 46] (by decide +kernel) (by decide +kernel)
set_option maxRecDepth 20000 in
theorem gX2_wordByPlace_X2_wordsUpTo : GoodIn wsX2_wordByPlace (wsV RX2 84 RX2 yX2_wordsUpTo wsX2_wordsUpTo) := goodIn_app (goodIn_of _ (by decide +kernel)) ggX2_wordByPlace_X2_wordsUpTo
set_option maxRecDepth 20000 in
theorem ggX2_wordByPlace_X2_lengthAt : GoodIn wsX2_wordByPlace wsX2_lengthAt := goodIn_r _ [17, 18, 19, 20, 7, 21, 10, 11, 12, 13, 9, 22, 23, 24, 25, 26, 27, 28, 29, 30, 31, 32, 33, 34, 35, 36, 37, 38, 39, 40, 41, 42, 43, 44, 45, 46] (by decide +kernel) (by decide +kernel)
set_option maxRecDepth 20000 in
theorem gX2_wordByPlace_X2_lengthAt : GoodIn wsX2_wordByPlace (wsV RX2 88 RX2 yX2_lengthAt wsX2_lengthAt) := goodIn_app (goodIn_of _ (by decide +kernel)) ggX2_wordByPlace_X2_lengthAt
set_option maxRecDepth 20000 in
theorem ggX2_wordByPlace_X2_isReadAs1 : GoodIn wsX2_wordByPlace wsX2_isReadAs1 := goodIn_r _ [30, 26, 34, 35, 36, 37, 38, 39, 40, 41, 42, 43, 44, 45, 46] (by decide +kernel) (by decide +kernel)
set_option maxRecDepth 20000 in
theorem gX2_wordByPlace_X2_isReadAs1 : GoodIn wsX2_wordByPlace (wsV RX2 66 RX2 yX2_isReadAs1 wsX2_isReadAs1) := goodIn_app (goodIn_of _ (by decide +kernel)) ggX2_wordByPlace_X2_isReadAs1
theorem dX2_wordByPlace_0 : decode cX2_wordByPlace 0 = .ok (.aload_n 0, 1) := by decide +kernel
theorem dX2_wordByPlace_1 : decode cX2_wordByPlace 1 = .ok (.iload_n 1, 1) := by decide +kernel
theorem dX2_wordByPlace_2 : decode cX2_wordByPlace 2 = .ok (.invokevirtual 84, 3) := by decide +kernel
theorem dX2_wordByPlace_5 : decode cX2_wordByPlace 5 = .ok (.istore_n 2, 1) := by decide +kernel
theorem dX2_wordByPlace_6 : decode cX2_wordByPlace 6 = .ok (.iload_n 2, 1) := by decide +kernel
theorem dX2_wordByPlace_7 : decode cX2_wordByPlace 7 = .ok (.bipush 12, 2) := by decide +kernel
theorem dX2_wordByPlace_9 : decode cX2_wordByPlace 9 = .ok (.imul, 1) := by decide +kernel
theorem dX2_wordByPlace_10 : decode cX2_wordByPlace 10 = .ok (.istore_n 3, 1) := by decide +kernel
theorem dX2_wordByPlace_11 : decode cX2_wordByPlace 11 = .ok (.iload_n 2, 1) := by decide +kernel
theorem dX2_wordByPlace_12 : decode cX2_wordByPlace 12 = .ok (.iconst (-1), 1) := by decide +kernel
theorem dX2_wordByPlace_13 : decode cX2_wordByPlace 13 = .ok (.if_icmp .eq 17, 3) := by decide +kernel
theorem dX2_wordByPlace_16 : decode cX2_wordByPlace 16 = .ok (.iload_n 3, 1) := by decide +kernel
theorem dX2_wordByPlace_17 : decode cX2_wordByPlace 17 = .ok (.aload_n 0, 1) := by decide +kernel
theorem dX2_wordByPlace_18 : decode cX2_wordByPlace 18 = .ok (.getfield 39, 3) := by decide +kernel
theorem dX2_wordByPlace_21 : decode cX2_wordByPlace 21 = .ok (.if_icmp .gt 9, 3) := by decide +kernel
theorem dX2_wordByPlace_24 : decode cX2_wordByPlace 24 = .ok (.iload_n 3, 1) := by decide +kernel
theorem dX2_wordByPlace_25 : decode cX2_wordByPlace 25 = .ok (.bipush 120, 2) := by decide +kernel
theorem dX2_wordByPlace_27 : decode cX2_wordByPlace 27 = .ok (.if_icmp .le 10, 3) := by decide +kernel
theorem dX2_wordByPlace_30 : decode cX2_wordByPlace 30 = .ok (.aload_n 0, 1) := by decide +kernel
theorem dX2_wordByPlace_31 : decode cX2_wordByPlace 31 = .ok (.getfield 18, 3) := by decide +kernel
theorem dX2_wordByPlace_34 : decode cX2_wordByPlace 34 = .ok (.iload_n 1, 1) := by decide +kernel
theorem dX2_wordByPlace_35 : decode cX2_wordByPlace 35 = .ok (.iaload, 1) := by decide +kernel
theorem dX2_wordByPlace_36 : decode cX2_wordByPlace 36 = .ok (.ireturn, 1) := by decide +kernel
theorem dX2_wordByPlace_37 : decode cX2_wordByPlace 37 = .ok (.iconst 0, 1) := by decide +kernel
theorem dX2_wordByPlace_38 : decode cX2_wordByPlace 38 = .ok (.istore 4, 2) := by decide +kernel
theorem dX2_wordByPlace_40 : decode cX2_wordByPlace 40 = .ok (.iload_n 3, 1) := by decide +kernel
theorem dX2_wordByPlace_41 : decode cX2_wordByPlace 41 = .ok (.bipush 12, 2) := by decide +kernel
theorem dX2_wordByPlace_43 : decode cX2_wordByPlace 43 = .ok (.isub, 1) := by decide +kernel
theorem dX2_wordByPlace_44 : decode cX2_wordByPlace 44 = .ok (.istore 5, 2) := by decide +kernel
theorem dX2_wordByPlace_46 : decode cX2_wordByPlace 46 = .ok (.iload 5, 2) := by decide +kernel
theorem dX2_wordByPlace_48 : decode cX2_wordByPlace 48 = .ok (.ifCond .lt 46, 3) := by decide +kernel
theorem dX2_wordByPlace_51 : decode cX2_wordByPlace 51 = .ok (.iload 5, 2) := by decide +kernel
theorem dX2_wordByPlace_53 : decode cX2_wordByPlace 53 = .ok (.iload_n 3, 1) := by decide +kernel
theorem dX2_wordByPlace_54 : decode cX2_wordByPlace 54 = .ok (.if_icmp .ge 40, 3) := by decide +kernel
theorem dX2_wordByPlace_57 : decode cX2_wordByPlace 57 = .ok (.iconst 2, 1) := by decide +kernel
theorem dX2_wordByPlace_58 : decode cX2_wordByPlace 58 = .ok (.iload 4, 2) := by decide +kernel
theorem dX2_wordByPlace_60 : decode cX2_wordByPlace 60 = .ok (.imul, 1) := by decide +kernel
theorem dX2_wordByPlace_61 : decode cX2_wordByPlace 61 = .ok (.aload_n 0, 1) := by decide +kernel
theorem dX2_wordByPlace_62 : decode cX2_wordByPlace 62 = .ok (.aload_n 0, 1) := by decide +kernel
theorem dX2_wordByPlace_63 : decode cX2_wordByPlace 63 = .ok (.iload_n 1, 1) := by decide +kernel
theorem dX2_wordByPlace_64 : decode cX2_wordByPlace 64 = .ok (.aload_n 0, 1) := by decide +kernel
theorem dX2_wordByPlace_65 : decode cX2_wordByPlace 65 = .ok (.getfield 30, 3) := by decide +kernel
theorem dX2_wordByPlace_68 : decode cX2_wordByPlace 68 = .ok (.iload 5, 2) := by decide +kernel
theorem dX2_wordByPlace_70 : decode cX2_wordByPlace 70 = .ok (.iaload, 1) := by decide +kernel
theorem dX2_wordByPlace_71 : decode cX2_wordByPlace 71 = .ok (.invokevirtual 88, 3) := by decide +kernel
theorem dX2_wordByPlace_74 : decode cX2_wordByPlace 74 = .ok (.invokevirtual 66, 3) := by decide +kernel
theorem dX2_wordByPlace_77 : decode cX2_wordByPlace 77 = .ok (.ifCond .eq 7, 3) := by decide +kernel
theorem dX2_wordByPlace_80 : decode cX2_wordByPlace 80 = .ok (.iconst 1, 1) := by decide +kernel
theorem dX2_wordByPlace_81 : decode cX2_wordByPlace 81 = .ok (.goto 4, 3) := by decide +kernel
theorem dX2_wordByPlace_84 : decode cX2_wordByPlace 84 = .ok (.iconst 0, 1) := by decide +kernel
theorem dX2_wordByPlace_85 : decode cX2_wordByPlace 85 = .ok (.iadd, 1) := by decide +kernel
theorem dX2_wordByPlace_86 : decode cX2_wordByPlace 86 = .ok (.istore 4, 2) := by decide +kernel
theorem dX2_wordByPlace_88 : decode cX2_wordByPlace 88 = .ok (.iinc 5 1, 3) := by decide +kernel
theorem dX2_wordByPlace_91 : decode cX2_wordByPlace 91 = .ok (.goto (-45), 3) := by decide +kernel
theorem dX2_wordByPlace_94 : decode cX2_wordByPlace 94 = .ok (.iload 4, 2) := by decide +kernel
theorem dX2_wordByPlace_96 : decode cX2_wordByPlace 96 = .ok (.ireturn, 1) := by decide +kernel
set_option maxRecDepth 20000 in
theorem ggX2_lengthAt_X2_shortened : GoodIn wsX2_lengthAt wsX2_shortened := goodIn_r _ [5] (by decide +kernel) (by decide +kernel)
set_option maxRecDepth 20000 in
theorem gX2_lengthAt_X2_shortened : GoodIn wsX2_lengthAt (va_wsS RX2 91 yX2_shortened wsX2_shortened) := goodIn_app (goodIn_of _ (by decide +kernel)) ggX2_lengthAt_X2_shortened
set_option maxRecDepth 20000 in
theorem ggX2_lengthAt_X2_takesWords : GoodIn wsX2_lengthAt wsX2_takesWords := goodIn_r _ [9, 10, 23, 24, 25, 26, 27, 28, 29, 30, 31, 32, 33, 34, 35] (by decide +kernel) (by decide +kernel)
set_option maxRecDepth 20000 in
theorem gX2_lengthAt_X2_takesWords : GoodIn wsX2_lengthAt (wsV RX2 81 RX2 yX2_takesWords wsX2_takesWords) := goodIn_app (goodIn_of _ (by decide +kernel)) ggX2_lengthAt_X2_takesWords
set_option maxRecDepth 20000 in
theorem ggX2_lengthAt_X2_handedOn : GoodIn wsX2_lengthAt wsX2_handedOn := goodIn_r _ [14, 15, 16, 17, 18, 4, 19, 20, 21, 22, 23, 24, 25, 26, 27, 28, 29, 30, 31, 32, 33, 34, 35] (by decide +kernel) (by decide +kernel)
set_option maxRecDepth 20000 in
theorem gX2_lengthAt_X2_handedOn : GoodIn wsX2_lengthAt (wsV RX2 94 RX2 yX2_handedOn wsX2_handedOn) := goodIn_app (goodIn_of _ (by decide +kernel)) ggX2_lengthAt_X2_handedOn
theorem dX2_lengthAt_0 : decode cX2_lengthAt 0 = .ok (.iload_n 2, 1) := by decide +kernel
theorem dX2_lengthAt_1 : decode cX2_lengthAt 1 = .ok (.istore_n 3, 1) := by decide +kernel
theorem dX2_lengthAt_2 : decode cX2_lengthAt 2 = .ok (.iconst 0, 1) := by decide +kernel
theorem dX2_lengthAt_3 : decode cX2_lengthAt 3 = .ok (.istore 4, 2) := by decide +kernel
theorem dX2_lengthAt_5 : decode cX2_lengthAt 5 = .ok (.iload 4, 2) := by decide +kernel
theorem dX2_lengthAt_7 : decode cX2_lengthAt 7 = .ok (.iload_n 1, 1) := by decide +kernel
theorem dX2_lengthAt_8 : decode cX2_lengthAt 8 = .ok (.if_icmp .ge 36, 3) := by decide +kernel
theorem dX2_lengthAt_11 : decode cX2_lengthAt 11 = .ok (.iload_n 3, 1) := by decide +kernel
theorem dX2_lengthAt_12 : decode cX2_lengthAt 12 = .ok (.aload_n 0, 1) := by decide +kernel
theorem dX2_lengthAt_13 : decode cX2_lengthAt 13 = .ok (.getfield 15, 3) := by decide +kernel
theorem dX2_lengthAt_16 : decode cX2_lengthAt 16 = .ok (.iload 4, 2) := by decide +kernel
theorem dX2_lengthAt_18 : decode cX2_lengthAt 18 = .ok (.iaload, 1) := by decide +kernel
theorem dX2_lengthAt_19 : decode cX2_lengthAt 19 = .ok (.invokestatic 91, 3) := by decide +kernel
theorem dX2_lengthAt_22 : decode cX2_lengthAt 22 = .ok (.istore_n 3, 1) := by decide +kernel
theorem dX2_lengthAt_23 : decode cX2_lengthAt 23 = .ok (.aload_n 0, 1) := by decide +kernel
theorem dX2_lengthAt_24 : decode cX2_lengthAt 24 = .ok (.iload 4, 2) := by decide +kernel
theorem dX2_lengthAt_26 : decode cX2_lengthAt 26 = .ok (.invokevirtual 81, 3) := by decide +kernel
theorem dX2_lengthAt_29 : decode cX2_lengthAt 29 = .ok (.ifCond .eq 9, 3) := by decide +kernel
theorem dX2_lengthAt_32 : decode cX2_lengthAt 32 = .ok (.aload_n 0, 1) := by decide +kernel
theorem dX2_lengthAt_33 : decode cX2_lengthAt 33 = .ok (.iload_n 3, 1) := by decide +kernel
theorem dX2_lengthAt_34 : decode cX2_lengthAt 34 = .ok (.invokevirtual 94, 3) := by decide +kernel
theorem dX2_lengthAt_37 : decode cX2_lengthAt 37 = .ok (.istore_n 3, 1) := by decide +kernel
theorem dX2_lengthAt_38 : decode cX2_lengthAt 38 = .ok (.iinc 4 1, 3) := by decide +kernel
theorem dX2_lengthAt_41 : decode cX2_lengthAt 41 = .ok (.goto (-36), 3) := by decide +kernel
theorem dX2_lengthAt_44 : decode cX2_lengthAt 44 = .ok (.iload_n 3, 1) := by decide +kernel
theorem dX2_lengthAt_45 : decode cX2_lengthAt 45 = .ok (.aload_n 0, 1) := by decide +kernel
theorem dX2_lengthAt_46 : decode cX2_lengthAt 46 = .ok (.getfield 15, 3) := by decide +kernel
theorem dX2_lengthAt_49 : decode cX2_lengthAt 49 = .ok (.iload_n 1, 1) := by decide +kernel
theorem dX2_lengthAt_50 : decode cX2_lengthAt 50 = .ok (.iaload, 1) := by decide +kernel
theorem dX2_lengthAt_51 : decode cX2_lengthAt 51 = .ok (.invokestatic 91, 3) := by decide +kernel
theorem dX2_lengthAt_54 : decode cX2_lengthAt 54 = .ok (.ireturn, 1) := by decide +kernel
set_option maxRecDepth 20000 in
theorem ggX2_wrongWith_X2_shortened : GoodIn wsX2_wrongWith wsX2_shortened := goodIn_r _ [7] (by decide +kernel) (by decide +kernel)
set_option maxRecDepth 20000 in
theorem gX2_wrongWith_X2_shortened : GoodIn wsX2_wrongWith (va_wsS RX2 91 yX2_shortened wsX2_shortened) := goodIn_app (goodIn_of _ (by decide +kernel)) ggX2_wrongWith_X2_shortened
set_option maxRecDepth 20000 in
theorem ggX2_wrongWith_X2_takesWords : GoodIn wsX2_wrongWith wsX2_takesWords := goodIn_r _ [11, 3, 24, 25, 26, 27, 28, 29, 30, 31, 32, 33, 34, 35, 36] (by decide +kernel) (by decide +kernel)
set_option maxRecDepth 20000 in
theorem gX2_wrongWith_X2_takesWords : GoodIn wsX2_wrongWith (wsV RX2 81 RX2 yX2_takesWords wsX2_takesWords) := goodIn_app (goodIn_of _ (by decide +kernel)) ggX2_wrongWith_X2_takesWords
set_option maxRecDepth 20000 in
theorem ggX2_wrongWith_X2_isReadAs1 : GoodIn wsX2_wrongWith wsX2_isReadAs1 := goodIn_r _ [15, 16, 24, 25, 26, 27, 28, 29, 30, 31, 32, 33, 34, 35, 36] (by decide +kernel) (by decide +kernel)
set_option maxRecDepth 20000 in
theorem gX2_wrongWith_X2_isReadAs1 : GoodIn wsX2_wrongWith (wsV RX2 66 RX2 yX2_isReadAs1 wsX2_isReadAs1) := goodIn_app (goodIn_of _ (by decide +kernel)) ggX2_wrongWith_X2_isReadAs1
set_option maxRecDepth 20000 in
theorem ggX2_wrongWith_X2_handedOn : GoodIn wsX2_wrongWith wsX2_handedOn := goodIn_r _ [20, 16, 12, 13, 14, 6, 15, 21, 22, 23, 24, 25, 26, 27, 28, 29, 30, 31, 32, 33, 34, 35, 36] (by decide +kernel) (by decide +kernel)
set_option maxRecDepth 20000 in
theorem gX2_wrongWith_X2_handedOn : GoodIn wsX2_wrongWith (wsV RX2 94 RX2 yX2_handedOn wsX2_handedOn) := goodIn_app (goodIn_of _ (by decide +kernel)) ggX2_wrongWith_X2_handedOn
theorem dX2_wrongWith_0 : decode cX2_wrongWith 0 = .ok (.bipush 8, 2) := by decide +kernel
theorem dX2_wrongWith_2 : decode cX2_wrongWith 2 = .ok (.istore 4, 2) := by decide +kernel
theorem dX2_wrongWith_4 : decode cX2_wrongWith 4 = .ok (.iconst 4, 1) := by decide +kernel
theorem dX2_wrongWith_5 : decode cX2_wrongWith 5 = .ok (.istore 5, 2) := by decide +kernel
theorem dX2_wrongWith_7 : decode cX2_wrongWith 7 = .ok (.iconst 1, 1) := by decide +kernel
theorem dX2_wrongWith_8 : decode cX2_wrongWith 8 = .ok (.istore 6, 2) := by decide +kernel
theorem dX2_wrongWith_10 : decode cX2_wrongWith 10 = .ok (.iconst 0, 1) := by decide +kernel
theorem dX2_wrongWith_11 : decode cX2_wrongWith 11 = .ok (.istore 7, 2) := by decide +kernel
theorem dX2_wrongWith_13 : decode cX2_wrongWith 13 = .ok (.iconst 0, 1) := by decide +kernel
theorem dX2_wrongWith_14 : decode cX2_wrongWith 14 = .ok (.istore 8, 2) := by decide +kernel
theorem dX2_wrongWith_16 : decode cX2_wrongWith 16 = .ok (.iload 8, 2) := by decide +kernel
theorem dX2_wrongWith_18 : decode cX2_wrongWith 18 = .ok (.bipush 8, 2) := by decide +kernel
theorem dX2_wrongWith_20 : decode cX2_wrongWith 20 = .ok (.if_icmp .ge 163, 3) := by decide +kernel
theorem dX2_wrongWith_23 : decode cX2_wrongWith 23 = .ok (.iload 8, 2) := by decide +kernel
theorem dX2_wrongWith_25 : decode cX2_wrongWith 25 = .ok (.iload_n 2, 1) := by decide +kernel
theorem dX2_wrongWith_26 : decode cX2_wrongWith 26 = .ok (.if_icmp .ne 7, 3) := by decide +kernel
theorem dX2_wrongWith_29 : decode cX2_wrongWith 29 = .ok (.iload_n 3, 1) := by decide +kernel
theorem dX2_wrongWith_30 : decode cX2_wrongWith 30 = .ok (.goto 10, 3) := by decide +kernel
theorem dX2_wrongWith_33 : decode cX2_wrongWith 33 = .ok (.aload_n 0, 1) := by decide +kernel
theorem dX2_wrongWith_34 : decode cX2_wrongWith 34 = .ok (.getfield 15, 3) := by decide +kernel
theorem dX2_wrongWith_37 : decode cX2_wrongWith 37 = .ok (.iload 8, 2) := by decide +kernel
theorem dX2_wrongWith_39 : decode cX2_wrongWith 39 = .ok (.iaload, 1) := by decide +kernel
theorem dX2_wrongWith_40 : decode cX2_wrongWith 40 = .ok (.istore 9, 2) := by decide +kernel
theorem dX2_wrongWith_42 : decode cX2_wrongWith 42 = .ok (.iload 4, 2) := by decide +kernel
theorem dX2_wrongWith_44 : decode cX2_wrongWith 44 = .ok (.iload 9, 2) := by decide +kernel
theorem dX2_wrongWith_46 : decode cX2_wrongWith 46 = .ok (.invokestatic 91, 3) := by decide +kernel
theorem dX2_wrongWith_49 : decode cX2_wrongWith 49 = .ok (.istore 4, 2) := by decide +kernel
theorem dX2_wrongWith_51 : decode cX2_wrongWith 51 = .ok (.iload 5, 2) := by decide +kernel
theorem dX2_wrongWith_53 : decode cX2_wrongWith 53 = .ok (.iload 9, 2) := by decide +kernel
theorem dX2_wrongWith_55 : decode cX2_wrongWith 55 = .ok (.invokestatic 91, 3) := by decide +kernel
theorem dX2_wrongWith_58 : decode cX2_wrongWith 58 = .ok (.istore 5, 2) := by decide +kernel
theorem dX2_wrongWith_60 : decode cX2_wrongWith 60 = .ok (.aload_n 0, 1) := by decide +kernel
theorem dX2_wrongWith_61 : decode cX2_wrongWith 61 = .ok (.getfield 18, 3) := by decide +kernel
theorem dX2_wrongWith_64 : decode cX2_wrongWith 64 = .ok (.iload 8, 2) := by decide +kernel
theorem dX2_wrongWith_66 : decode cX2_wrongWith 66 = .ok (.iaload, 1) := by decide +kernel
theorem dX2_wrongWith_67 : decode cX2_wrongWith 67 = .ok (.istore 10, 2) := by decide +kernel
theorem dX2_wrongWith_69 : decode cX2_wrongWith 69 = .ok (.aload_n 0, 1) := by decide +kernel
theorem dX2_wrongWith_70 : decode cX2_wrongWith 70 = .ok (.iload 8, 2) := by decide +kernel
theorem dX2_wrongWith_72 : decode cX2_wrongWith 72 = .ok (.invokevirtual 81, 3) := by decide +kernel
theorem dX2_wrongWith_75 : decode cX2_wrongWith 75 = .ok (.ifCond .eq 59, 3) := by decide +kernel
theorem dX2_wrongWith_78 : decode cX2_wrongWith 78 = .ok (.iload 6, 2) := by decide +kernel
theorem dX2_wrongWith_80 : decode cX2_wrongWith 80 = .ok (.ifCond .eq 54, 3) := by decide +kernel
theorem dX2_wrongWith_83 : decode cX2_wrongWith 83 = .ok (.aload_n 0, 1) := by decide +kernel
theorem dX2_wrongWith_84 : decode cX2_wrongWith 84 = .ok (.iload 4, 2) := by decide +kernel
theorem dX2_wrongWith_86 : decode cX2_wrongWith 86 = .ok (.invokevirtual 66, 3) := by decide +kernel
theorem dX2_wrongWith_89 : decode cX2_wrongWith 89 = .ok (.ifCond .eq 7, 3) := by decide +kernel
theorem dX2_wrongWith_92 : decode cX2_wrongWith 92 = .ok (.iload_n 1, 1) := by decide +kernel
theorem dX2_wrongWith_93 : decode cX2_wrongWith 93 = .ok (.goto 4, 3) := by decide +kernel
theorem dX2_wrongWith_96 : decode cX2_wrongWith 96 = .ok (.iconst 0, 1) := by decide +kernel
theorem dX2_wrongWith_97 : decode cX2_wrongWith 97 = .ok (.aload_n 0, 1) := by decide +kernel
theorem dX2_wrongWith_98 : decode cX2_wrongWith 98 = .ok (.iload 5, 2) := by decide +kernel
theorem dX2_wrongWith_100 : decode cX2_wrongWith 100 = .ok (.invokevirtual 66, 3) := by decide +kernel
theorem dX2_wrongWith_103 : decode cX2_wrongWith 103 = .ok (.ifCond .eq 11, 3) := by decide +kernel
theorem dX2_wrongWith_106 : decode cX2_wrongWith 106 = .ok (.sipush 4095, 3) := by decide +kernel
theorem dX2_wrongWith_109 : decode cX2_wrongWith 109 = .ok (.iload_n 1, 1) := by decide +kernel
theorem dX2_wrongWith_110 : decode cX2_wrongWith 110 = .ok (.isub, 1) := by decide +kernel
theorem dX2_wrongWith_111 : decode cX2_wrongWith 111 = .ok (.goto 4, 3) := by decide +kernel
theorem dX2_wrongWith_114 : decode cX2_wrongWith 114 = .ok (.iconst 0, 1) := by decide +kernel
theorem dX2_wrongWith_115 : decode cX2_wrongWith 115 = .ok (.ior, 1) := by decide +kernel
theorem dX2_wrongWith_116 : decode cX2_wrongWith 116 = .ok (.istore 10, 2) := by decide +kernel
theorem dX2_wrongWith_118 : decode cX2_wrongWith 118 = .ok (.aload_n 0, 1) := by decide +kernel
theorem dX2_wrongWith_119 : decode cX2_wrongWith 119 = .ok (.iload 4, 2) := by decide +kernel
theorem dX2_wrongWith_121 : decode cX2_wrongWith 121 = .ok (.invokevirtual 94, 3) := by decide +kernel
theorem dX2_wrongWith_124 : decode cX2_wrongWith 124 = .ok (.istore 4, 2) := by decide +kernel
theorem dX2_wrongWith_126 : decode cX2_wrongWith 126 = .ok (.aload_n 0, 1) := by decide +kernel
theorem dX2_wrongWith_127 : decode cX2_wrongWith 127 = .ok (.iload 5, 2) := by decide +kernel
theorem dX2_wrongWith_129 : decode cX2_wrongWith 129 = .ok (.invokevirtual 94, 3) := by decide +kernel
theorem dX2_wrongWith_132 : decode cX2_wrongWith 132 = .ok (.istore 5, 2) := by decide +kernel
theorem dX2_wrongWith_134 : decode cX2_wrongWith 134 = .ok (.iload_n 1, 1) := by decide +kernel
theorem dX2_wrongWith_135 : decode cX2_wrongWith 135 = .ok (.aload_n 0, 1) := by decide +kernel
theorem dX2_wrongWith_136 : decode cX2_wrongWith 136 = .ok (.getfield 9, 3) := by decide +kernel
theorem dX2_wrongWith_139 : decode cX2_wrongWith 139 = .ok (.iload 8, 2) := by decide +kernel
theorem dX2_wrongWith_141 : decode cX2_wrongWith 141 = .ok (.iaload, 1) := by decide +kernel
theorem dX2_wrongWith_142 : decode cX2_wrongWith 142 = .ok (.ifCond .ne 8, 3) := by decide +kernel
theorem dX2_wrongWith_145 : decode cX2_wrongWith 145 = .ok (.iload 10, 2) := by decide +kernel
theorem dX2_wrongWith_147 : decode cX2_wrongWith 147 = .ok (.goto 4, 3) := by decide +kernel
theorem dX2_wrongWith_150 : decode cX2_wrongWith 150 = .ok (.iconst 0, 1) := by decide +kernel
theorem dX2_wrongWith_151 : decode cX2_wrongWith 151 = .ok (.if_icmp .eq 12, 3) := by decide +kernel
theorem dX2_wrongWith_154 : decode cX2_wrongWith 154 = .ok (.iload 7, 2) := by decide +kernel
theorem dX2_wrongWith_156 : decode cX2_wrongWith 156 = .ok (.iconst 1, 1) := by decide +kernel
theorem dX2_wrongWith_157 : decode cX2_wrongWith 157 = .ok (.iload 8, 2) := by decide +kernel
theorem dX2_wrongWith_159 : decode cX2_wrongWith 159 = .ok (.ishl, 1) := by decide +kernel
theorem dX2_wrongWith_160 : decode cX2_wrongWith 160 = .ok (.ior, 1) := by decide +kernel
theorem dX2_wrongWith_161 : decode cX2_wrongWith 161 = .ok (.istore 7, 2) := by decide +kernel
theorem dX2_wrongWith_163 : decode cX2_wrongWith 163 = .ok (.aload_n 0, 1) := by decide +kernel
theorem dX2_wrongWith_164 : decode cX2_wrongWith 164 = .ok (.getfield 9, 3) := by decide +kernel
theorem dX2_wrongWith_167 : decode cX2_wrongWith 167 = .ok (.iload 8, 2) := by decide +kernel
theorem dX2_wrongWith_169 : decode cX2_wrongWith 169 = .ok (.iaload, 1) := by decide +kernel
theorem dX2_wrongWith_170 : decode cX2_wrongWith 170 = .ok (.iconst 2, 1) := by decide +kernel
theorem dX2_wrongWith_171 : decode cX2_wrongWith 171 = .ok (.if_icmp .ne 6, 3) := by decide +kernel
theorem dX2_wrongWith_174 : decode cX2_wrongWith 174 = .ok (.iconst 0, 1) := by decide +kernel
theorem dX2_wrongWith_175 : decode cX2_wrongWith 175 = .ok (.istore 6, 2) := by decide +kernel
theorem dX2_wrongWith_177 : decode cX2_wrongWith 177 = .ok (.iinc 8 1, 3) := by decide +kernel
theorem dX2_wrongWith_180 : decode cX2_wrongWith 180 = .ok (.goto (-164), 3) := by decide +kernel
theorem dX2_wrongWith_183 : decode cX2_wrongWith 183 = .ok (.iload 7, 2) := by decide +kernel
theorem dX2_wrongWith_185 : decode cX2_wrongWith 185 = .ok (.ireturn, 1) := by decide +kernel
theorem dX3_init_0 : decode cX3_init 0 = .ok (.aload_n 0, 1) := by decide +kernel
theorem dX3_init_1 : decode cX3_init 1 = .ok (.invokespecial 3, 3) := by decide +kernel
theorem dX3_init_4 : decode cX3_init 4 = .ok (.aload_n 0, 1) := by decide +kernel
theorem dX3_init_5 : decode cX3_init 5 = .ok (.bipush 60, 2) := by decide +kernel
theorem dX3_init_7 : decode cX3_init 7 = .ok (.newarray .char, 2) := by decide +kernel
theorem dX3_init_9 : decode cX3_init 9 = .ok (.putfield 9, 3) := by decide +kernel
theorem dX3_init_12 : decode cX3_init 12 = .ok (.return_, 1) := by decide +kernel
theorem dX3_add_0 : decode cX3_add 0 = .ok (.aload_n 0, 1) := by decide +kernel
theorem dX3_add_1 : decode cX3_add 1 = .ok (.getfield 15, 3) := by decide +kernel
theorem dX3_add_4 : decode cX3_add 4 = .ok (.ifCond .lt 32, 3) := by decide +kernel
theorem dX3_add_7 : decode cX3_add 7 = .ok (.aload_n 0, 1) := by decide +kernel
theorem dX3_add_8 : decode cX3_add 8 = .ok (.getfield 15, 3) := by decide +kernel
theorem dX3_add_11 : decode cX3_add 11 = .ok (.bipush 60, 2) := by decide +kernel
theorem dX3_add_13 : decode cX3_add 13 = .ok (.if_icmp .ge 23, 3) := by decide +kernel
theorem dX3_add_16 : decode cX3_add 16 = .ok (.aload_n 0, 1) := by decide +kernel
theorem dX3_add_17 : decode cX3_add 17 = .ok (.getfield 9, 3) := by decide +kernel
theorem dX3_add_20 : decode cX3_add 20 = .ok (.aload_n 0, 1) := by decide +kernel
theorem dX3_add_21 : decode cX3_add 21 = .ok (.getfield 15, 3) := by decide +kernel
theorem dX3_add_24 : decode cX3_add 24 = .ok (.iload_n 1, 1) := by decide +kernel
theorem dX3_add_25 : decode cX3_add 25 = .ok (.castore, 1) := by decide +kernel
theorem dX3_add_26 : decode cX3_add 26 = .ok (.aload_n 0, 1) := by decide +kernel
theorem dX3_add_27 : decode cX3_add 27 = .ok (.dup, 1) := by decide +kernel
theorem dX3_add_28 : decode cX3_add 28 = .ok (.getfield 15, 3) := by decide +kernel
theorem dX3_add_31 : decode cX3_add 31 = .ok (.iconst 1, 1) := by decide +kernel
theorem dX3_add_32 : decode cX3_add 32 = .ok (.iadd, 1) := by decide +kernel
theorem dX3_add_33 : decode cX3_add 33 = .ok (.putfield 15, 3) := by decide +kernel
theorem dX3_add_36 : decode cX3_add 36 = .ok (.return_, 1) := by decide +kernel
theorem dX3_empty_0 : decode cX3_empty 0 = .ok (.aload_n 0, 1) := by decide +kernel
theorem dX3_empty_1 : decode cX3_empty 1 = .ok (.iconst 0, 1) := by decide +kernel
theorem dX3_empty_2 : decode cX3_empty 2 = .ok (.putfield 15, 3) := by decide +kernel
theorem dX3_empty_5 : decode cX3_empty 5 = .ok (.return_, 1) := by decide +kernel
set_option maxRecDepth 20000 in
theorem ggX3_errorPlace_X3_fits : GoodIn wsX3_errorPlace wsX3_fits := goodIn_r _ [6, 7, 8, 9, 5, 10, 1, 11, 12, 13, 14, 15, 16] (by decide +kernel) (by decide +kernel)
set_option maxRecDepth 20000 in
theorem gX3_errorPlace_X3_fits : GoodIn wsX3_errorPlace (wsV RX3 19 RX3 yX3_fits wsX3_fits) := goodIn_app (goodIn_of _ (by decide +kernel)) ggX3_errorPlace_X3_fits
theorem dX3_errorPlace_0 : decode cX3_errorPlace 0 = .ok (.iconst 0, 1) := by decide +kernel
theorem dX3_errorPlace_1 : decode cX3_errorPlace 1 = .ok (.istore_n 1, 1) := by decide +kernel
theorem dX3_errorPlace_2 : decode cX3_errorPlace 2 = .ok (.iload_n 1, 1) := by decide +kernel
theorem dX3_errorPlace_3 : decode cX3_errorPlace 3 = .ok (.aload_n 0, 1) := by decide +kernel
theorem dX3_errorPlace_4 : decode cX3_errorPlace 4 = .ok (.getfield 15, 3) := by decide +kernel
theorem dX3_errorPlace_7 : decode cX3_errorPlace 7 = .ok (.if_icmp .ge 19, 3) := by decide +kernel
theorem dX3_errorPlace_10 : decode cX3_errorPlace 10 = .ok (.aload_n 0, 1) := by decide +kernel
theorem dX3_errorPlace_11 : decode cX3_errorPlace 11 = .ok (.iload_n 1, 1) := by decide +kernel
theorem dX3_errorPlace_12 : decode cX3_errorPlace 12 = .ok (.invokevirtual 19, 3) := by decide +kernel
theorem dX3_errorPlace_15 : decode cX3_errorPlace 15 = .ok (.ifCond .ne 5, 3) := by decide +kernel
theorem dX3_errorPlace_18 : decode cX3_errorPlace 18 = .ok (.iload_n 1, 1) := by decide +kernel
theorem dX3_errorPlace_19 : decode cX3_errorPlace 19 = .ok (.ireturn, 1) := by decide +kernel
theorem dX3_errorPlace_20 : decode cX3_errorPlace 20 = .ok (.iinc 1 1, 3) := by decide +kernel
theorem dX3_errorPlace_23 : decode cX3_errorPlace 23 = .ok (.goto (-21), 3) := by decide +kernel
theorem dX3_errorPlace_26 : decode cX3_errorPlace 26 = .ok (.aload_n 0, 1) := by decide +kernel
theorem dX3_errorPlace_27 : decode cX3_errorPlace 27 = .ok (.getfield 15, 3) := by decide +kernel
theorem dX3_errorPlace_30 : decode cX3_errorPlace 30 = .ok (.ireturn, 1) := by decide +kernel
set_option maxRecDepth 20000 in
theorem ggX3_fits_X3_signAt : GoodIn wsX3_fits wsX3_signAt := goodIn_r _ [5, 6, 7, 11, 12] (by decide +kernel) (by decide +kernel)
set_option maxRecDepth 20000 in
theorem gX3_fits_X3_signAt : GoodIn wsX3_fits (wsV RX3 23 RX3 yX3_signAt wsX3_signAt) := goodIn_app (goodIn_of _ (by decide +kernel)) ggX3_fits_X3_signAt
set_option maxRecDepth 20000 in
theorem ggX3_fits_X3_digitOf : GoodIn wsX3_fits wsX3_digitOf := goodIn_r _ [10] (by decide +kernel) (by decide +kernel)
set_option maxRecDepth 20000 in
theorem gX3_fits_X3_digitOf : GoodIn wsX3_fits (va_wsS RX3 27 yX3_digitOf wsX3_digitOf) := goodIn_app (goodIn_of _ (by decide +kernel)) ggX3_fits_X3_digitOf
theorem dX3_fits_0 : decode cX3_fits 0 = .ok (.iload_n 1, 1) := by decide +kernel
theorem dX3_fits_1 : decode cX3_fits 1 = .ok (.iconst 4, 1) := by decide +kernel
theorem dX3_fits_2 : decode cX3_fits 2 = .ok (.idiv, 1) := by decide +kernel
theorem dX3_fits_3 : decode cX3_fits 3 = .ok (.istore_n 2, 1) := by decide +kernel
theorem dX3_fits_4 : decode cX3_fits 4 = .ok (.iload_n 2, 1) := by decide +kernel
theorem dX3_fits_5 : decode cX3_fits 5 = .ok (.bipush 10, 2) := by decide +kernel
theorem dX3_fits_7 : decode cX3_fits 7 = .ok (.if_icmp .ge 15, 3) := by decide +kernel
theorem dX3_fits_10 : decode cX3_fits 10 = .ok (.aload_n 0, 1) := by decide +kernel
theorem dX3_fits_11 : decode cX3_fits 11 = .ok (.iload_n 1, 1) := by decide +kernel
theorem dX3_fits_12 : decode cX3_fits 12 = .ok (.iconst 1, 1) := by decide +kernel
theorem dX3_fits_13 : decode cX3_fits 13 = .ok (.isub, 1) := by decide +kernel
theorem dX3_fits_14 : decode cX3_fits 14 = .ok (.invokevirtual 23, 3) := by decide +kernel
theorem dX3_fits_17 : decode cX3_fits 17 = .ok (.bipush 33, 2) := by decide +kernel
theorem dX3_fits_19 : decode cX3_fits 19 = .ok (.if_icmp .ne 5, 3) := by decide +kernel
theorem dX3_fits_22 : decode cX3_fits 22 = .ok (.iconst 0, 1) := by decide +kernel
theorem dX3_fits_23 : decode cX3_fits 23 = .ok (.ireturn, 1) := by decide +kernel
theorem dX3_fits_24 : decode cX3_fits 24 = .ok (.aload_n 0, 1) := by decide +kernel
theorem dX3_fits_25 : decode cX3_fits 25 = .ok (.iload_n 1, 1) := by decide +kernel
theorem dX3_fits_26 : decode cX3_fits 26 = .ok (.invokevirtual 23, 3) := by decide +kernel
theorem dX3_fits_29 : decode cX3_fits 29 = .ok (.istore_n 3, 1) := by decide +kernel
theorem dX3_fits_30 : decode cX3_fits 30 = .ok (.iload_n 1, 1) := by decide +kernel
theorem dX3_fits_31 : decode cX3_fits 31 = .ok (.iconst 4, 1) := by decide +kernel
theorem dX3_fits_32 : decode cX3_fits 32 = .ok (.irem, 1) := by decide +kernel
theorem dX3_fits_33 : decode cX3_fits 33 = .ok (.iconst 3, 1) := by decide +kernel
theorem dX3_fits_34 : decode cX3_fits 34 = .ok (.if_icmp .ge 17, 3) := by decide +kernel
theorem dX3_fits_37 : decode cX3_fits 37 = .ok (.iload_n 3, 1) := by decide +kernel
theorem dX3_fits_38 : decode cX3_fits 38 = .ok (.invokestatic 27, 3) := by decide +kernel
theorem dX3_fits_41 : decode cX3_fits 41 = .ok (.iconst (-1), 1) := by decide +kernel
theorem dX3_fits_42 : decode cX3_fits 42 = .ok (.if_icmp .eq 7, 3) := by decide +kernel
theorem dX3_fits_45 : decode cX3_fits 45 = .ok (.iconst 1, 1) := by decide +kernel
theorem dX3_fits_46 : decode cX3_fits 46 = .ok (.goto 4, 3) := by decide +kernel
theorem dX3_fits_49 : decode cX3_fits 49 = .ok (.iconst 0, 1) := by decide +kernel
theorem dX3_fits_50 : decode cX3_fits 50 = .ok (.ireturn, 1) := by decide +kernel
theorem dX3_fits_51 : decode cX3_fits 51 = .ok (.iload_n 3, 1) := by decide +kernel
theorem dX3_fits_52 : decode cX3_fits 52 = .ok (.bipush 33, 2) := by decide +kernel
theorem dX3_fits_54 : decode cX3_fits 54 = .ok (.if_icmp .eq 15, 3) := by decide +kernel
theorem dX3_fits_57 : decode cX3_fits 57 = .ok (.iload_n 3, 1) := by decide +kernel
theorem dX3_fits_58 : decode cX3_fits 58 = .ok (.bipush 44, 2) := by decide +kernel
theorem dX3_fits_60 : decode cX3_fits 60 = .ok (.if_icmp .ne 13, 3) := by decide +kernel
theorem dX3_fits_63 : decode cX3_fits 63 = .ok (.iload_n 2, 1) := by decide +kernel
theorem dX3_fits_64 : decode cX3_fits 64 = .ok (.bipush 9, 2) := by decide +kernel
theorem dX3_fits_66 : decode cX3_fits 66 = .ok (.if_icmp .ge 7, 3) := by decide +kernel
theorem dX3_fits_69 : decode cX3_fits 69 = .ok (.iconst 1, 1) := by decide +kernel
theorem dX3_fits_70 : decode cX3_fits 70 = .ok (.goto 4, 3) := by decide +kernel
theorem dX3_fits_73 : decode cX3_fits 73 = .ok (.iconst 0, 1) := by decide +kernel
theorem dX3_fits_74 : decode cX3_fits 74 = .ok (.ireturn, 1) := by decide +kernel
set_option maxRecDepth 20000 in
theorem ggX3_wordsTold_X3_endsWithGap : GoodIn wsX3_wordsTold wsX3_endsWithGap := goodIn_r _ [6, 1, 7, 8, 9, 5, 10, 11, 23, 24] (by decide +kernel) (by decide +kernel)
set_option maxRecDepth 20000 in
theorem gX3_wordsTold_X3_endsWithGap : GoodIn wsX3_wordsTold (wsV RX3 31 RX3 yX3_endsWithGap wsX3_endsWithGap) := goodIn_app (goodIn_of _ (by decide +kernel)) ggX3_wordsTold_X3_endsWithGap
set_option maxRecDepth 20000 in
theorem ggX3_wordsTold_X3_errorPlace : GoodIn wsX3_wordsTold wsX3_errorPlace := goodIn_r _ [15, 1, 16, 17, 18, 5, 19, 7, 8, 9, 10, 11, 20, 21, 22, 23, 24] (by decide +kernel) (by decide +kernel)
set_option maxRecDepth 20000 in
theorem gX3_wordsTold_X3_errorPlace : GoodIn wsX3_wordsTold (wsV RX3 35 RX3 yX3_errorPlace wsX3_errorPlace) := goodIn_app (goodIn_of _ (by decide +kernel)) ggX3_wordsTold_X3_errorPlace
theorem dX3_wordsTold_0 : decode cX3_wordsTold 0 = .ok (.aload_n 0, 1) := by decide +kernel
theorem dX3_wordsTold_1 : decode cX3_wordsTold 1 = .ok (.invokevirtual 31, 3) := by decide +kernel
theorem dX3_wordsTold_4 : decode cX3_wordsTold 4 = .ok (.ifCond .eq 12, 3) := by decide +kernel
theorem dX3_wordsTold_7 : decode cX3_wordsTold 7 = .ok (.aload_n 0, 1) := by decide +kernel
theorem dX3_wordsTold_8 : decode cX3_wordsTold 8 = .ok (.getfield 15, 3) := by decide +kernel
theorem dX3_wordsTold_11 : decode cX3_wordsTold 11 = .ok (.iconst 1, 1) := by decide +kernel
theorem dX3_wordsTold_12 : decode cX3_wordsTold 12 = .ok (.isub, 1) := by decide +kernel
theorem dX3_wordsTold_13 : decode cX3_wordsTold 13 = .ok (.goto 7, 3) := by decide +kernel
theorem dX3_wordsTold_16 : decode cX3_wordsTold 16 = .ok (.aload_n 0, 1) := by decide +kernel
theorem dX3_wordsTold_17 : decode cX3_wordsTold 17 = .ok (.getfield 15, 3) := by decide +kernel
theorem dX3_wordsTold_20 : decode cX3_wordsTold 20 = .ok (.istore_n 1, 1) := by decide +kernel
theorem dX3_wordsTold_21 : decode cX3_wordsTold 21 = .ok (.aload_n 0, 1) := by decide +kernel
theorem dX3_wordsTold_22 : decode cX3_wordsTold 22 = .ok (.invokevirtual 35, 3) := by decide +kernel
theorem dX3_wordsTold_25 : decode cX3_wordsTold 25 = .ok (.aload_n 0, 1) := by decide +kernel
theorem dX3_wordsTold_26 : decode cX3_wordsTold 26 = .ok (.getfield 15, 3) := by decide +kernel
theorem dX3_wordsTold_29 : decode cX3_wordsTold 29 = .ok (.if_icmp .lt 10, 3) := by decide +kernel
theorem dX3_wordsTold_32 : decode cX3_wordsTold 32 = .ok (.iload_n 1, 1) := by decide +kernel
theorem dX3_wordsTold_33 : decode cX3_wordsTold 33 = .ok (.iconst 4, 1) := by decide +kernel
theorem dX3_wordsTold_34 : decode cX3_wordsTold 34 = .ok (.irem, 1) := by decide +kernel
theorem dX3_wordsTold_35 : decode cX3_wordsTold 35 = .ok (.iconst 3, 1) := by decide +kernel
theorem dX3_wordsTold_36 : decode cX3_wordsTold 36 = .ok (.if_icmp .eq 5, 3) := by decide +kernel
theorem dX3_wordsTold_39 : decode cX3_wordsTold 39 = .ok (.iconst 0, 1) := by decide +kernel
theorem dX3_wordsTold_40 : decode cX3_wordsTold 40 = .ok (.ireturn, 1) := by decide +kernel
theorem dX3_wordsTold_41 : decode cX3_wordsTold 41 = .ok (.iload_n 1, 1) := by decide +kernel
theorem dX3_wordsTold_42 : decode cX3_wordsTold 42 = .ok (.iconst 1, 1) := by decide +kernel
theorem dX3_wordsTold_43 : decode cX3_wordsTold 43 = .ok (.iadd, 1) := by decide +kernel
theorem dX3_wordsTold_44 : decode cX3_wordsTold 44 = .ok (.iconst 4, 1) := by decide +kernel
theorem dX3_wordsTold_45 : decode cX3_wordsTold 45 = .ok (.idiv, 1) := by decide +kernel
theorem dX3_wordsTold_46 : decode cX3_wordsTold 46 = .ok (.ireturn, 1) := by decide +kernel
set_option maxRecDepth 20000 in
theorem ggX3_endsWithGap_X3_signAt : GoodIn wsX3_endsWithGap wsX3_signAt := goodIn_r _ [6, 1, 7, 8, 9] (by decide +kernel) (by decide +kernel)
set_option maxRecDepth 20000 in
theorem gX3_endsWithGap_X3_signAt : GoodIn wsX3_endsWithGap (wsV RX3 23 RX3 yX3_signAt wsX3_signAt) := goodIn_app (goodIn_of _ (by decide +kernel)) ggX3_endsWithGap_X3_signAt
theorem dX3_endsWithGap_0 : decode cX3_endsWithGap 0 = .ok (.aload_n 0, 1) := by decide +kernel
theorem dX3_endsWithGap_1 : decode cX3_endsWithGap 1 = .ok (.aload_n 0, 1) := by decide +kernel
theorem dX3_endsWithGap_2 : decode cX3_endsWithGap 2 = .ok (.getfield 15, 3) := by decide +kernel
theorem dX3_endsWithGap_5 : decode cX3_endsWithGap 5 = .ok (.iconst 1, 1) := by decide +kernel
theorem dX3_endsWithGap_6 : decode cX3_endsWithGap 6 = .ok (.isub, 1) := by decide +kernel
theorem dX3_endsWithGap_7 : decode cX3_endsWithGap 7 = .ok (.invokevirtual 23, 3) := by decide +kernel
theorem dX3_endsWithGap_10 : decode cX3_endsWithGap 10 = .ok (.bipush 33, 2) := by decide +kernel
theorem dX3_endsWithGap_12 : decode cX3_endsWithGap 12 = .ok (.if_icmp .ne 7, 3) := by decide +kernel
theorem dX3_endsWithGap_15 : decode cX3_endsWithGap 15 = .ok (.iconst 1, 1) := by decide +kernel
theorem dX3_endsWithGap_16 : decode cX3_endsWithGap 16 = .ok (.goto 4, 3) := by decide +kernel
theorem dX3_endsWithGap_19 : decode cX3_endsWithGap 19 = .ok (.iconst 0, 1) := by decide +kernel
theorem dX3_endsWithGap_20 : decode cX3_endsWithGap 20 = .ok (.ireturn, 1) := by decide +kernel
set_option maxRecDepth 20000 in
theorem ggX3_wordAt_X3_signAt : GoodIn wsX3_wordAt wsX3_signAt := goodIn_r _ [5, 6, 7, 11, 12] (by decide +kernel) (by decide +kernel)
set_option maxRecDepth 20000 in
theorem gX3_wordAt_X3_signAt : GoodIn wsX3_wordAt (wsV RX3 23 RX3 yX3_signAt wsX3_signAt) := goodIn_app (goodIn_of _ (by decide +kernel)) ggX3_wordAt_X3_signAt
set_option maxRecDepth 20000 in
theorem ggX3_wordAt_X3_digitOf : GoodIn wsX3_wordAt wsX3_digitOf := goodIn_r _ [10] (by decide +kernel) (by decide +kernel)
set_option maxRecDepth 20000 in
theorem gX3_wordAt_X3_digitOf : GoodIn wsX3_wordAt (va_wsS RX3 27 yX3_digitOf wsX3_digitOf) := goodIn_app (goodIn_of _ (by decide +kernel)) ggX3_wordAt_X3_digitOf
theorem dX3_wordAt_0 : decode cX3_wordAt 0 = .ok (.iconst 0, 1) := by decide +kernel
theorem dX3_wordAt_1 : decode cX3_wordAt 1 = .ok (.istore_n 2, 1) := by decide +kernel
theorem dX3_wordAt_2 : decode cX3_wordAt 2 = .ok (.iconst 0, 1) := by decide +kernel
theorem dX3_wordAt_3 : decode cX3_wordAt 3 = .ok (.istore_n 3, 1) := by decide +kernel
theorem dX3_wordAt_4 : decode cX3_wordAt 4 = .ok (.iload_n 3, 1) := by decide +kernel
theorem dX3_wordAt_5 : decode cX3_wordAt 5 = .ok (.iconst 3, 1) := by decide +kernel
theorem dX3_wordAt_6 : decode cX3_wordAt 6 = .ok (.if_icmp .ge 27, 3) := by decide +kernel
theorem dX3_wordAt_9 : decode cX3_wordAt 9 = .ok (.bipush 16, 2) := by decide +kernel
theorem dX3_wordAt_11 : decode cX3_wordAt 11 = .ok (.iload_n 2, 1) := by decide +kernel
theorem dX3_wordAt_12 : decode cX3_wordAt 12 = .ok (.imul, 1) := by decide +kernel
theorem dX3_wordAt_13 : decode cX3_wordAt 13 = .ok (.aload_n 0, 1) := by decide +kernel
theorem dX3_wordAt_14 : decode cX3_wordAt 14 = .ok (.iload_n 1, 1) := by decide +kernel
theorem dX3_wordAt_15 : decode cX3_wordAt 15 = .ok (.iconst 4, 1) := by decide +kernel
theorem dX3_wordAt_16 : decode cX3_wordAt 16 = .ok (.imul, 1) := by decide +kernel
theorem dX3_wordAt_17 : decode cX3_wordAt 17 = .ok (.iload_n 3, 1) := by decide +kernel
theorem dX3_wordAt_18 : decode cX3_wordAt 18 = .ok (.iadd, 1) := by decide +kernel
theorem dX3_wordAt_19 : decode cX3_wordAt 19 = .ok (.invokevirtual 23, 3) := by decide +kernel
theorem dX3_wordAt_22 : decode cX3_wordAt 22 = .ok (.invokestatic 27, 3) := by decide +kernel
theorem dX3_wordAt_25 : decode cX3_wordAt 25 = .ok (.iadd, 1) := by decide +kernel
theorem dX3_wordAt_26 : decode cX3_wordAt 26 = .ok (.istore_n 2, 1) := by decide +kernel
theorem dX3_wordAt_27 : decode cX3_wordAt 27 = .ok (.iinc 3 1, 3) := by decide +kernel
theorem dX3_wordAt_30 : decode cX3_wordAt 30 = .ok (.goto (-26), 3) := by decide +kernel
theorem dX3_wordAt_33 : decode cX3_wordAt 33 = .ok (.iload_n 2, 1) := by decide +kernel
theorem dX3_wordAt_34 : decode cX3_wordAt 34 = .ok (.ireturn, 1) := by decide +kernel
theorem dX3_signAt_0 : decode cX3_signAt 0 = .ok (.iload_n 1, 1) := by decide +kernel
theorem dX3_signAt_1 : decode cX3_signAt 1 = .ok (.ifCond .lt 26, 3) := by decide +kernel
theorem dX3_signAt_4 : decode cX3_signAt 4 = .ok (.iload_n 1, 1) := by decide +kernel
theorem dX3_signAt_5 : decode cX3_signAt 5 = .ok (.aload_n 0, 1) := by decide +kernel
theorem dX3_signAt_6 : decode cX3_signAt 6 = .ok (.getfield 15, 3) := by decide +kernel
theorem dX3_signAt_9 : decode cX3_signAt 9 = .ok (.if_icmp .ge 18, 3) := by decide +kernel
theorem dX3_signAt_12 : decode cX3_signAt 12 = .ok (.iload_n 1, 1) := by decide +kernel
theorem dX3_signAt_13 : decode cX3_signAt 13 = .ok (.bipush 60, 2) := by decide +kernel
theorem dX3_signAt_15 : decode cX3_signAt 15 = .ok (.if_icmp .ge 12, 3) := by decide +kernel
theorem dX3_signAt_18 : decode cX3_signAt 18 = .ok (.aload_n 0, 1) := by decide +kernel
theorem dX3_signAt_19 : decode cX3_signAt 19 = .ok (.getfield 9, 3) := by decide +kernel
theorem dX3_signAt_22 : decode cX3_signAt 22 = .ok (.iload_n 1, 1) := by decide +kernel
theorem dX3_signAt_23 : decode cX3_signAt 23 = .ok (.caload, 1) := by decide +kernel
theorem dX3_signAt_24 : decode cX3_signAt 24 = .ok (.goto 5, 3) := by decide +kernel
theorem dX3_signAt_27 : decode cX3_signAt 27 = .ok (.bipush 32, 2) := by decide +kernel
theorem dX3_signAt_29 : decode cX3_signAt 29 = .ok (.ireturn, 1) := by decide +kernel
theorem dX3_digitOf_0 : decode cX3_digitOf 0 = .ok (.iload_n 0, 1) := by decide +kernel
theorem dX3_digitOf_1 : decode cX3_digitOf 1 = .ok (.bipush 48, 2) := by decide +kernel
theorem dX3_digitOf_3 : decode cX3_digitOf 3 = .ok (.if_icmp .lt 14, 3) := by decide +kernel
theorem dX3_digitOf_6 : decode cX3_digitOf 6 = .ok (.iload_n 0, 1) := by decide +kernel
theorem dX3_digitOf_7 : decode cX3_digitOf 7 = .ok (.bipush 57, 2) := by decide +kernel
theorem dX3_digitOf_9 : decode cX3_digitOf 9 = .ok (.if_icmp .gt 8, 3) := by decide +kernel
theorem dX3_digitOf_12 : decode cX3_digitOf 12 = .ok (.iload_n 0, 1) := by decide +kernel
theorem dX3_digitOf_13 : decode cX3_digitOf 13 = .ok (.bipush 48, 2) := by decide +kernel
theorem dX3_digitOf_15 : decode cX3_digitOf 15 = .ok (.isub, 1) := by decide +kernel
theorem dX3_digitOf_16 : decode cX3_digitOf 16 = .ok (.ireturn, 1) := by decide +kernel
theorem dX3_digitOf_17 : decode cX3_digitOf 17 = .ok (.iload_n 0, 1) := by decide +kernel
theorem dX3_digitOf_18 : decode cX3_digitOf 18 = .ok (.bipush 97, 2) := by decide +kernel
theorem dX3_digitOf_20 : decode cX3_digitOf 20 = .ok (.if_icmp .lt 19, 3) := by decide +kernel
theorem dX3_digitOf_23 : decode cX3_digitOf 23 = .ok (.iload_n 0, 1) := by decide +kernel
theorem dX3_digitOf_24 : decode cX3_digitOf 24 = .ok (.bipush 102, 2) := by decide +kernel
theorem dX3_digitOf_26 : decode cX3_digitOf 26 = .ok (.if_icmp .gt 13, 3) := by decide +kernel
theorem dX3_digitOf_29 : decode cX3_digitOf 29 = .ok (.iload_n 0, 1) := by decide +kernel
theorem dX3_digitOf_30 : decode cX3_digitOf 30 = .ok (.bipush 97, 2) := by decide +kernel
theorem dX3_digitOf_32 : decode cX3_digitOf 32 = .ok (.isub, 1) := by decide +kernel
theorem dX3_digitOf_33 : decode cX3_digitOf 33 = .ok (.bipush 10, 2) := by decide +kernel
theorem dX3_digitOf_35 : decode cX3_digitOf 35 = .ok (.iadd, 1) := by decide +kernel
theorem dX3_digitOf_36 : decode cX3_digitOf 36 = .ok (.goto 4, 3) := by decide +kernel
theorem dX3_digitOf_39 : decode cX3_digitOf 39 = .ok (.iconst (-1), 1) := by decide +kernel
theorem dX3_digitOf_40 : decode cX3_digitOf 40 = .ok (.ireturn, 1) := by decide +kernel
