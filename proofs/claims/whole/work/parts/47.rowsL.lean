theorem dJxe99ae_isNaN_b9ae7_0 : decode cJxe99ae_isNaN_b9ae7 0 = .ok (.dload_n 0, 1) := by decide +kernel
theorem dJxe99ae_isNaN_b9ae7_1 : decode cJxe99ae_isNaN_b9ae7 1 = .ok (.dload_n 0, 1) := by decide +kernel
theorem dJxe99ae_isNaN_b9ae7_2 : decode cJxe99ae_isNaN_b9ae7 2 = .ok (.dcmp .l, 1) := by decide +kernel
theorem dJxe99ae_isNaN_b9ae7_3 : decode cJxe99ae_isNaN_b9ae7 3 = .ok (.ifCond .eq 7, 3) := by decide +kernel
theorem dJxe99ae_isNaN_b9ae7_6 : decode cJxe99ae_isNaN_b9ae7 6 = .ok (.iconst 1, 1) := by decide +kernel
theorem dJxe99ae_isNaN_b9ae7_7 : decode cJxe99ae_isNaN_b9ae7 7 = .ok (.goto 4, 3) := by decide +kernel
theorem dJxe99ae_isNaN_b9ae7_10 : decode cJxe99ae_isNaN_b9ae7 10 = .ok (.iconst 0, 1) := by decide +kernel
theorem dJxe99ae_isNaN_b9ae7_11 : decode cJxe99ae_isNaN_b9ae7 11 = .ok (.ireturn, 1) := by decide +kernel
set_option maxRecDepth 20000 in
theorem ggJxe99ae_doubleToLongBits_ccdee_Jxe99ae_isNaN_b9ae7 : GoodIn wsJxe99ae_doubleToLongBits_ccdee wsJxe99ae_isNaN_b9ae7 := goodIn_r _ [9] (by decide +kernel) (by decide +kernel)
set_option maxRecDepth 20000 in
theorem gJxe99ae_doubleToLongBits_ccdee_Jxe99ae_isNaN_b9ae7 : GoodIn wsJxe99ae_doubleToLongBits_ccdee (va_wsS RJxe99ae 122 yJxe99ae_isNaN_b9ae7 wsJxe99ae_isNaN_b9ae7) := goodIn_app (goodIn_of _ (by decide +kernel)) ggJxe99ae_doubleToLongBits_ccdee_Jxe99ae_isNaN_b9ae7
theorem dJxe99ae_doubleToLongBits_ccdee_0 : decode cJxe99ae_doubleToLongBits_ccdee 0 = .ok (.dload_n 0, 1) := by decide +kernel
theorem dJxe99ae_doubleToLongBits_ccdee_1 : decode cJxe99ae_doubleToLongBits_ccdee 1 = .ok (.invokestatic 122, 3) := by decide +kernel
theorem dJxe99ae_doubleToLongBits_ccdee_4 : decode cJxe99ae_doubleToLongBits_ccdee 4 = .ok (.ifCond .ne 8, 3) := by decide +kernel
theorem dJxe99ae_doubleToLongBits_ccdee_7 : decode cJxe99ae_doubleToLongBits_ccdee 7 = .ok (.dload_n 0, 1) := by decide +kernel
theorem dJxe99ae_doubleToLongBits_ccdee_8 : decode cJxe99ae_doubleToLongBits_ccdee 8 = .ok (.invokestatic 134, 3) := by decide +kernel
theorem dJxe99ae_doubleToLongBits_ccdee_11 : decode cJxe99ae_doubleToLongBits_ccdee 11 = .ok (.lreturn, 1) := by decide +kernel
theorem dJxe99ae_doubleToLongBits_ccdee_12 : decode cJxe99ae_doubleToLongBits_ccdee 12 = .ok (.ldc2_w 137, 3) := by decide +kernel
theorem dJxe99ae_doubleToLongBits_ccdee_15 : decode cJxe99ae_doubleToLongBits_ccdee 15 = .ok (.lreturn, 1) := by decide +kernel
set_option maxRecDepth 20000 in
theorem ggL_mode_X4_mode : GoodIn wsL_mode wsX4_mode := goodIn_ca (goodIn_ca (goodIn_r _ [7, 8, 9, 10, 11, 12, 13, 14, 15, 16, 6, 17, 18, 19, 20, 21, 22, 23, 24, 25, 26, 27, 28, 29, 30, 31, 32, 33, 34, 35, 36, 37, 38, 39, 40, 41, 42, 43, 44, 45, 46, 47, 48, 49, 50, 51, 52, 53, 54, 55, 56, 57, 58, 59, 60, 61, 62, 63, 64, 65, 66, 67, 68, 69, 70, 71, 72, 73, 74, 75, 76, 77, 78] (by decide +kernel) (by decide +kernel)) (goodIn_sub (fun _ h => List.mem_cons_of_mem _ (List.mem_append_left _ (List.mem_append_right _ h))) (by decide +kernel))) (goodIn_sub (fun _ h => List.mem_cons_of_mem _ (List.mem_append_right _ h)) (by decide +kernel))
set_option maxRecDepth 20000 in
theorem gL_mode_X4_mode : GoodIn wsL_mode (wsV RL 7 RX4 yX4_mode wsX4_mode) := goodIn_app (goodIn_of _ (by decide +kernel)) ggL_mode_X4_mode
theorem dL_mode_0 : decode cL_mode 0 = .ok (.aload_n 3, 1) := by decide +kernel
theorem dL_mode_1 : decode cL_mode 1 = .ok (.iconst 0, 1) := by decide +kernel
theorem dL_mode_2 : decode cL_mode 2 = .ok (.aload_n 0, 1) := by decide +kernel
theorem dL_mode_3 : decode cL_mode 3 = .ok (.iload_n 1, 1) := by decide +kernel
theorem dL_mode_4 : decode cL_mode 4 = .ok (.iload_n 2, 1) := by decide +kernel
theorem dL_mode_5 : decode cL_mode 5 = .ok (.invokevirtual 7, 3) := by decide +kernel
theorem dL_mode_8 : decode cL_mode 8 = .ok (.i2l, 1) := by decide +kernel
theorem dL_mode_9 : decode cL_mode 9 = .ok (.lastore, 1) := by decide +kernel
theorem dL_mode_10 : decode cL_mode 10 = .ok (.goto 11, 3) := by decide +kernel
theorem dL_mode_13 : decode cL_mode 13 = .ok (.astore 4, 2) := by decide +kernel
theorem dL_mode_15 : decode cL_mode 15 = .ok (.iconst 1, 1) := by decide +kernel
theorem dL_mode_16 : decode cL_mode 16 = .ok (.ireturn, 1) := by decide +kernel
theorem dL_mode_17 : decode cL_mode 17 = .ok (.astore 4, 2) := by decide +kernel
theorem dL_mode_19 : decode cL_mode 19 = .ok (.iconst 2, 1) := by decide +kernel
theorem dL_mode_20 : decode cL_mode 20 = .ok (.ireturn, 1) := by decide +kernel
theorem dL_mode_21 : decode cL_mode 21 = .ok (.iconst 0, 1) := by decide +kernel
theorem dL_mode_22 : decode cL_mode 22 = .ok (.ireturn, 1) := by decide +kernel
set_option maxRecDepth 20000 in
theorem ggL_loss_X4_loss : GoodIn wsL_loss wsX4_loss := goodIn_ca (goodIn_ca (goodIn_r _ [7, 8, 9, 10, 11, 12, 13, 14, 15, 16, 6, 17, 18, 19, 20, 21, 22, 23, 24, 25, 26, 27, 28, 29, 30, 31, 32, 33, 34, 35, 36, 37, 38, 39, 40, 41, 42, 43, 44, 45, 46, 47, 48, 49, 50, 51, 52, 53, 54, 55, 56, 57, 58, 59, 60, 61, 62, 63, 64, 65, 66, 67, 68, 69, 70, 71, 72, 73, 74, 75, 76, 77, 78] (by decide +kernel) (by decide +kernel)) (goodIn_sub (fun _ h => List.mem_cons_of_mem _ (List.mem_append_left _ (List.mem_append_right _ h))) (by decide +kernel))) (goodIn_sub (fun _ h => List.mem_cons_of_mem _ (List.mem_append_right _ h)) (by decide +kernel))
set_option maxRecDepth 20000 in
theorem gL_loss_X4_loss : GoodIn wsL_loss (wsV RL 17 RX4 yX4_loss wsX4_loss) := goodIn_app (goodIn_of _ (by decide +kernel)) ggL_loss_X4_loss
theorem dL_loss_0 : decode cL_loss 0 = .ok (.aload_n 3, 1) := by decide +kernel
theorem dL_loss_1 : decode cL_loss 1 = .ok (.iconst 0, 1) := by decide +kernel
theorem dL_loss_2 : decode cL_loss 2 = .ok (.aload_n 0, 1) := by decide +kernel
theorem dL_loss_3 : decode cL_loss 3 = .ok (.iload_n 1, 1) := by decide +kernel
theorem dL_loss_4 : decode cL_loss 4 = .ok (.iload_n 2, 1) := by decide +kernel
theorem dL_loss_5 : decode cL_loss 5 = .ok (.invokevirtual 17, 3) := by decide +kernel
theorem dL_loss_8 : decode cL_loss 8 = .ok (.i2l, 1) := by decide +kernel
theorem dL_loss_9 : decode cL_loss 9 = .ok (.lastore, 1) := by decide +kernel
theorem dL_loss_10 : decode cL_loss 10 = .ok (.goto 11, 3) := by decide +kernel
theorem dL_loss_13 : decode cL_loss 13 = .ok (.astore 4, 2) := by decide +kernel
theorem dL_loss_15 : decode cL_loss 15 = .ok (.iconst 1, 1) := by decide +kernel
theorem dL_loss_16 : decode cL_loss 16 = .ok (.ireturn, 1) := by decide +kernel
theorem dL_loss_17 : decode cL_loss 17 = .ok (.astore 4, 2) := by decide +kernel
theorem dL_loss_19 : decode cL_loss 19 = .ok (.iconst 2, 1) := by decide +kernel
theorem dL_loss_20 : decode cL_loss 20 = .ok (.ireturn, 1) := by decide +kernel
theorem dL_loss_21 : decode cL_loss 21 = .ok (.iconst 0, 1) := by decide +kernel
theorem dL_loss_22 : decode cL_loss 22 = .ok (.ireturn, 1) := by decide +kernel
set_option maxRecDepth 20000 in
theorem ggL_set_X4_set : GoodIn wsL_set wsX4_set := goodIn_ca (goodIn_ca (goodIn_r _ [7, 8, 9, 10, 11, 12, 13, 14, 15, 16, 17, 18, 6, 19, 20, 21, 22, 23, 24, 25, 26, 27, 28, 29, 30, 31, 32, 33, 34, 35, 36, 37, 38, 39, 40, 41, 42, 43, 44, 45, 46, 47, 48, 49, 50, 51, 52, 53, 54, 55, 56, 57, 58, 59, 60, 61, 62, 63, 64, 65, 66, 67, 68, 69, 70, 71, 72, 73, 74, 75, 76, 77, 78, 79, 80] (by decide +kernel) (by decide +kernel)) (goodIn_sub (fun _ h => List.mem_cons_of_mem _ (List.mem_append_left _ (List.mem_append_right _ h))) (by decide +kernel))) (goodIn_sub (fun _ h => List.mem_cons_of_mem _ (List.mem_append_right _ h)) (by decide +kernel))
set_option maxRecDepth 20000 in
theorem gL_set_X4_set : GoodIn wsL_set (wsV RL 20 RX4 yX4_set wsX4_set) := goodIn_app (goodIn_of _ (by decide +kernel)) ggL_set_X4_set
theorem dL_set_0 : decode cL_set 0 = .ok (.aload_n 3, 1) := by decide +kernel
theorem dL_set_1 : decode cL_set 1 = .ok (.iconst 0, 1) := by decide +kernel
theorem dL_set_2 : decode cL_set 2 = .ok (.aload_n 0, 1) := by decide +kernel
theorem dL_set_3 : decode cL_set 3 = .ok (.iload_n 1, 1) := by decide +kernel
theorem dL_set_4 : decode cL_set 4 = .ok (.iload_n 2, 1) := by decide +kernel
theorem dL_set_5 : decode cL_set 5 = .ok (.invokevirtual 20, 3) := by decide +kernel
theorem dL_set_8 : decode cL_set 8 = .ok (.i2l, 1) := by decide +kernel
theorem dL_set_9 : decode cL_set 9 = .ok (.lastore, 1) := by decide +kernel
theorem dL_set_10 : decode cL_set 10 = .ok (.goto 11, 3) := by decide +kernel
theorem dL_set_13 : decode cL_set 13 = .ok (.astore 4, 2) := by decide +kernel
theorem dL_set_15 : decode cL_set 15 = .ok (.iconst 1, 1) := by decide +kernel
theorem dL_set_16 : decode cL_set 16 = .ok (.ireturn, 1) := by decide +kernel
theorem dL_set_17 : decode cL_set 17 = .ok (.astore 4, 2) := by decide +kernel
theorem dL_set_19 : decode cL_set 19 = .ok (.iconst 2, 1) := by decide +kernel
theorem dL_set_20 : decode cL_set 20 = .ok (.ireturn, 1) := by decide +kernel
theorem dL_set_21 : decode cL_set 21 = .ok (.iconst 0, 1) := by decide +kernel
theorem dL_set_22 : decode cL_set 22 = .ok (.ireturn, 1) := by decide +kernel
set_option maxRecDepth 20000 in
theorem ggL_pulse_X4_pulse : GoodIn wsL_pulse wsX4_pulse := goodIn_ca (goodIn_r _ [6, 7, 8, 9, 10, 11, 12, 13, 14, 15, 16, 17, 18, 19, 20, 21, 22, 23, 24, 25, 26, 27, 28, 29, 30, 31, 32, 33, 34, 35, 36, 37, 38, 39, 40, 41, 42, 43, 44, 45, 46, 47, 48, 49, 50, 51, 52, 53, 54, 55, 56, 57, 58, 59, 5, 60, 61, 62, 63, 64, 65, 66, 67, 68, 69, 70, 71, 72, 73, 74, 75, 76, 77, 78, 79, 80, 81, 82, 83, 84, 85] (by decide +kernel) (by decide +kernel)) (goodIn_sub (fun _ h => List.mem_cons_of_mem _ (List.mem_append_right _ h)) (by decide +kernel))
set_option maxRecDepth 20000 in
theorem gL_pulse_X4_pulse : GoodIn wsL_pulse (wsV RL 23 RX4 yX4_pulse wsX4_pulse) := goodIn_app (goodIn_of _ (by decide +kernel)) ggL_pulse_X4_pulse
theorem dL_pulse_0 : decode cL_pulse 0 = .ok (.aload_n 2, 1) := by decide +kernel
theorem dL_pulse_1 : decode cL_pulse 1 = .ok (.iconst 0, 1) := by decide +kernel
theorem dL_pulse_2 : decode cL_pulse 2 = .ok (.aload_n 0, 1) := by decide +kernel
theorem dL_pulse_3 : decode cL_pulse 3 = .ok (.iload_n 1, 1) := by decide +kernel
theorem dL_pulse_4 : decode cL_pulse 4 = .ok (.invokevirtual 23, 3) := by decide +kernel
theorem dL_pulse_7 : decode cL_pulse 7 = .ok (.i2l, 1) := by decide +kernel
theorem dL_pulse_8 : decode cL_pulse 8 = .ok (.lastore, 1) := by decide +kernel
theorem dL_pulse_9 : decode cL_pulse 9 = .ok (.goto 6, 3) := by decide +kernel
theorem dL_pulse_12 : decode cL_pulse 12 = .ok (.astore_n 3, 1) := by decide +kernel
theorem dL_pulse_13 : decode cL_pulse 13 = .ok (.iconst 1, 1) := by decide +kernel
theorem dL_pulse_14 : decode cL_pulse 14 = .ok (.ireturn, 1) := by decide +kernel
theorem dL_pulse_15 : decode cL_pulse 15 = .ok (.iconst 0, 1) := by decide +kernel
theorem dL_pulse_16 : decode cL_pulse 16 = .ok (.ireturn, 1) := by decide +kernel
set_option maxRecDepth 20000 in
theorem ggL_send_X4_send : GoodIn wsL_send wsX4_send := goodIn_ca (goodIn_r _ [6, 7, 8, 9, 10, 11, 12, 13, 5, 14, 15, 16, 17, 18, 19, 20, 21, 22, 23, 24, 25, 26, 27, 28, 29, 30, 31, 32, 33, 34, 35, 36, 37, 38, 39, 40, 41, 42, 43, 44, 45, 46, 47, 48, 49, 50, 51, 52, 53, 54, 55, 56, 57, 58, 59, 60, 61, 62, 63, 64, 65, 66, 67, 68, 69, 70, 71, 72, 73, 74, 75, 76, 77, 78, 79, 80, 81, 82, 83, 84, 85, 86, 87, 88, 89, 90, 91, 92, 93, 94, 95] (by decide +kernel) (by decide +kernel)) (goodIn_sub (fun _ h => List.mem_cons_of_mem _ (List.mem_append_right _ h)) (by decide +kernel))
set_option maxRecDepth 20000 in
theorem gL_send_X4_send : GoodIn wsL_send (wsV RL 27 RX4 yX4_send wsX4_send) := goodIn_app (goodIn_of _ (by decide +kernel)) ggL_send_X4_send
theorem dL_send_0 : decode cL_send 0 = .ok (.aload_n 2, 1) := by decide +kernel
theorem dL_send_1 : decode cL_send 1 = .ok (.iconst 0, 1) := by decide +kernel
theorem dL_send_2 : decode cL_send 2 = .ok (.aload_n 0, 1) := by decide +kernel
theorem dL_send_3 : decode cL_send 3 = .ok (.iload_n 1, 1) := by decide +kernel
theorem dL_send_4 : decode cL_send 4 = .ok (.invokevirtual 27, 3) := by decide +kernel
theorem dL_send_7 : decode cL_send 7 = .ok (.i2l, 1) := by decide +kernel
theorem dL_send_8 : decode cL_send 8 = .ok (.lastore, 1) := by decide +kernel
theorem dL_send_9 : decode cL_send 9 = .ok (.goto 6, 3) := by decide +kernel
theorem dL_send_12 : decode cL_send 12 = .ok (.astore_n 3, 1) := by decide +kernel
theorem dL_send_13 : decode cL_send 13 = .ok (.iconst 1, 1) := by decide +kernel
theorem dL_send_14 : decode cL_send 14 = .ok (.ireturn, 1) := by decide +kernel
theorem dL_send_15 : decode cL_send 15 = .ok (.iconst 0, 1) := by decide +kernel
theorem dL_send_16 : decode cL_send 16 = .ok (.ireturn, 1) := by decide +kernel
set_option maxRecDepth 20000 in
theorem ggL_append_X4_append : GoodIn wsL_append wsX4_append := goodIn_ca (goodIn_ca (goodIn_r _ [7, 8, 9, 10, 11, 12, 13, 14, 15, 16, 17, 18, 19, 20, 21, 22, 23, 24, 25, 26, 27] (by decide +kernel) (by decide +kernel)) (goodIn_sub (fun _ h => List.mem_cons_of_mem _ (List.mem_append_left _ (List.mem_append_right _ h))) (by decide +kernel))) (goodIn_sub (fun _ h => List.mem_cons_of_mem _ (List.mem_append_right _ h)) (by decide +kernel))
set_option maxRecDepth 20000 in
theorem gL_append_X4_append : GoodIn wsL_append (wsV RL 30 RX4 yX4_append wsX4_append) := goodIn_app (goodIn_of _ (by decide +kernel)) ggL_append_X4_append
theorem dL_append_0 : decode cL_append 0 = .ok (.aload_n 2, 1) := by decide +kernel
theorem dL_append_1 : decode cL_append 1 = .ok (.iconst 0, 1) := by decide +kernel
theorem dL_append_2 : decode cL_append 2 = .ok (.aload_n 0, 1) := by decide +kernel
theorem dL_append_3 : decode cL_append 3 = .ok (.iload_n 1, 1) := by decide +kernel
theorem dL_append_4 : decode cL_append 4 = .ok (.invokevirtual 30, 3) := by decide +kernel
theorem dL_append_7 : decode cL_append 7 = .ok (.i2l, 1) := by decide +kernel
theorem dL_append_8 : decode cL_append 8 = .ok (.lastore, 1) := by decide +kernel
theorem dL_append_9 : decode cL_append 9 = .ok (.goto 9, 3) := by decide +kernel
theorem dL_append_12 : decode cL_append 12 = .ok (.astore_n 3, 1) := by decide +kernel
theorem dL_append_13 : decode cL_append 13 = .ok (.iconst 1, 1) := by decide +kernel
theorem dL_append_14 : decode cL_append 14 = .ok (.ireturn, 1) := by decide +kernel
theorem dL_append_15 : decode cL_append 15 = .ok (.astore_n 3, 1) := by decide +kernel
theorem dL_append_16 : decode cL_append 16 = .ok (.iconst 2, 1) := by decide +kernel
theorem dL_append_17 : decode cL_append 17 = .ok (.ireturn, 1) := by decide +kernel
theorem dL_append_18 : decode cL_append 18 = .ok (.iconst 0, 1) := by decide +kernel
theorem dL_append_19 : decode cL_append 19 = .ok (.ireturn, 1) := by decide +kernel
set_option maxRecDepth 20000 in
theorem ggL_load_X4_load : GoodIn wsL_load wsX4_load := goodIn_ca (goodIn_r _ [6, 7, 8, 9, 10, 11, 12, 13, 14, 15, 16, 17, 18, 19, 20, 21, 22, 23, 24, 25, 26, 27, 28, 29, 30, 31, 32, 33, 34, 35, 36, 37, 38, 39, 40, 41, 42, 43, 44, 45, 46, 47, 48, 49, 50, 51, 52, 53, 54, 55, 56, 57, 58, 59, 60, 61, 62, 63, 64, 65, 66, 67, 68, 69, 70, 71, 72, 73, 74, 75, 76, 77, 78, 79, 80, 81, 82, 83, 84, 85, 86, 87, 88, 89, 5, 90, 91, 92, 93, 94, 95, 96, 97, 98, 99, 100, 101, 102, 103, 104, 105, 106, 107, 108, 109, 110, 111, 112, 113, 114, 115, 116, 117, 118, 119, 120, 121, 122, 123, 124, 125, 126, 127, 128, 129, 130, 131, 132, 133, 134, 135, 136, 137, 138, 139, 140, 141, 142, 143, 144, 145, 146, 147, 148, 149, 150, 151, 152, 153, 154, 155, 156, 157, 158, 159, 160, 161, 162, 163, 164, 165, 166, 167, 168, 169, 170, 171, 172, 173, 174, 175, 176, 177, 178, 179, 180, 181, 182, 183, 184, 185, 186, 187, 188, 189, 190, 191, 192, 193, 194, 195, 196] (by decide +kernel) (by decide +kernel)) (goodIn_sub (fun _ h => List.mem_cons_of_mem _ (List.mem_append_right _ h)) (by decide +kernel))
set_option maxRecDepth 20000 in
theorem gL_load_X4_load : GoodIn wsL_load (wsV RL 35 RX4 yX4_load wsX4_load) := goodIn_app (goodIn_of _ (by decide +kernel)) ggL_load_X4_load
theorem dL_load_0 : decode cL_load 0 = .ok (.aload_n 1, 1) := by decide +kernel
theorem dL_load_1 : decode cL_load 1 = .ok (.iconst 0, 1) := by decide +kernel
theorem dL_load_2 : decode cL_load 2 = .ok (.aload_n 0, 1) := by decide +kernel
theorem dL_load_3 : decode cL_load 3 = .ok (.invokevirtual 35, 3) := by decide +kernel
theorem dL_load_6 : decode cL_load 6 = .ok (.i2l, 1) := by decide +kernel
theorem dL_load_7 : decode cL_load 7 = .ok (.lastore, 1) := by decide +kernel
theorem dL_load_8 : decode cL_load 8 = .ok (.goto 6, 3) := by decide +kernel
theorem dL_load_11 : decode cL_load 11 = .ok (.astore_n 2, 1) := by decide +kernel
theorem dL_load_12 : decode cL_load 12 = .ok (.iconst 1, 1) := by decide +kernel
theorem dL_load_13 : decode cL_load 13 = .ok (.ireturn, 1) := by decide +kernel
theorem dL_load_14 : decode cL_load 14 = .ok (.iconst 0, 1) := by decide +kernel
theorem dL_load_15 : decode cL_load 15 = .ok (.ireturn, 1) := by decide +kernel
set_option maxRecDepth 20000 in
theorem ggL_keep_X4_keep : GoodIn wsL_keep wsX4_keep := goodIn_ca (goodIn_r _ [6, 7, 8, 9, 10, 11, 12, 13, 14, 15, 16, 5, 17, 18, 19, 20, 21, 22, 23, 24, 25, 26, 27, 28, 29, 30, 31, 32, 33, 34, 35, 36, 37, 38, 39, 40, 41, 42, 43, 44, 45, 46, 47, 48, 49, 50, 51, 52, 53, 54, 55, 56, 57, 58, 59, 60, 61, 62] (by decide +kernel) (by decide +kernel)) (goodIn_sub (fun _ h => List.mem_cons_of_mem _ (List.mem_append_right _ h)) (by decide +kernel))
set_option maxRecDepth 20000 in
theorem gL_keep_X4_keep : GoodIn wsL_keep (wsV RL 39 RX4 yX4_keep wsX4_keep) := goodIn_app (goodIn_of _ (by decide +kernel)) ggL_keep_X4_keep
theorem dL_keep_0 : decode cL_keep 0 = .ok (.aload_n 2, 1) := by decide +kernel
theorem dL_keep_1 : decode cL_keep 1 = .ok (.iconst 0, 1) := by decide +kernel
theorem dL_keep_2 : decode cL_keep 2 = .ok (.aload_n 0, 1) := by decide +kernel
theorem dL_keep_3 : decode cL_keep 3 = .ok (.iload_n 1, 1) := by decide +kernel
theorem dL_keep_4 : decode cL_keep 4 = .ok (.invokevirtual 39, 3) := by decide +kernel
theorem dL_keep_7 : decode cL_keep 7 = .ok (.i2l, 1) := by decide +kernel
theorem dL_keep_8 : decode cL_keep 8 = .ok (.lastore, 1) := by decide +kernel
theorem dL_keep_9 : decode cL_keep 9 = .ok (.goto 6, 3) := by decide +kernel
theorem dL_keep_12 : decode cL_keep 12 = .ok (.astore_n 3, 1) := by decide +kernel
theorem dL_keep_13 : decode cL_keep 13 = .ok (.iconst 1, 1) := by decide +kernel
theorem dL_keep_14 : decode cL_keep 14 = .ok (.ireturn, 1) := by decide +kernel
theorem dL_keep_15 : decode cL_keep 15 = .ok (.iconst 0, 1) := by decide +kernel
theorem dL_keep_16 : decode cL_keep 16 = .ok (.ireturn, 1) := by decide +kernel
set_option maxRecDepth 20000 in
theorem ggL_goBack_X4_goBack : GoodIn wsL_goBack wsX4_goBack := goodIn_ca (goodIn_ca (goodIn_r _ [7, 8, 9, 10, 11, 12, 13, 14, 15, 16, 17, 6, 18, 19, 20, 21, 22, 23, 24, 25, 26, 27, 28, 29, 30, 31, 32, 33, 34, 35, 36, 37, 38, 39, 40, 41, 42, 43, 44, 45, 46, 47, 48, 49, 50, 51, 52, 53, 54, 55, 56, 57, 58, 59, 60, 61, 62, 63, 64, 65, 66, 67, 68, 69, 70, 71, 72, 73, 74, 75, 76, 77, 78, 79, 80] (by decide +kernel) (by decide +kernel)) (goodIn_sub (fun _ h => List.mem_cons_of_mem _ (List.mem_append_left _ (List.mem_append_right _ h))) (by decide +kernel))) (goodIn_sub (fun _ h => List.mem_cons_of_mem _ (List.mem_append_right _ h)) (by decide +kernel))
set_option maxRecDepth 20000 in
theorem gL_goBack_X4_goBack : GoodIn wsL_goBack (wsV RL 42 RX4 yX4_goBack wsX4_goBack) := goodIn_app (goodIn_of _ (by decide +kernel)) ggL_goBack_X4_goBack
theorem dL_goBack_0 : decode cL_goBack 0 = .ok (.aload_n 2, 1) := by decide +kernel
theorem dL_goBack_1 : decode cL_goBack 1 = .ok (.iconst 0, 1) := by decide +kernel
theorem dL_goBack_2 : decode cL_goBack 2 = .ok (.aload_n 0, 1) := by decide +kernel
theorem dL_goBack_3 : decode cL_goBack 3 = .ok (.iload_n 1, 1) := by decide +kernel
theorem dL_goBack_4 : decode cL_goBack 4 = .ok (.invokevirtual 42, 3) := by decide +kernel
theorem dL_goBack_7 : decode cL_goBack 7 = .ok (.i2l, 1) := by decide +kernel
theorem dL_goBack_8 : decode cL_goBack 8 = .ok (.lastore, 1) := by decide +kernel
theorem dL_goBack_9 : decode cL_goBack 9 = .ok (.goto 9, 3) := by decide +kernel
theorem dL_goBack_12 : decode cL_goBack 12 = .ok (.astore_n 3, 1) := by decide +kernel
theorem dL_goBack_13 : decode cL_goBack 13 = .ok (.iconst 1, 1) := by decide +kernel
theorem dL_goBack_14 : decode cL_goBack 14 = .ok (.ireturn, 1) := by decide +kernel
theorem dL_goBack_15 : decode cL_goBack 15 = .ok (.astore_n 3, 1) := by decide +kernel
theorem dL_goBack_16 : decode cL_goBack 16 = .ok (.iconst 2, 1) := by decide +kernel
theorem dL_goBack_17 : decode cL_goBack 17 = .ok (.ireturn, 1) := by decide +kernel
theorem dL_goBack_18 : decode cL_goBack 18 = .ok (.iconst 0, 1) := by decide +kernel
theorem dL_goBack_19 : decode cL_goBack 19 = .ok (.ireturn, 1) := by decide +kernel
set_option maxRecDepth 20000 in
theorem ggL_undo_X4_undo : GoodIn wsL_undo wsX4_undo := goodIn_ca (goodIn_r _ [6, 7, 8, 9, 10, 11, 12, 13, 14, 15, 16, 17, 18, 19, 20, 21, 22, 23, 24, 25, 26, 27, 28, 29, 30, 31, 32, 33, 34, 35, 36, 37, 38, 39, 40, 41, 42, 43, 44, 45, 46, 47, 48, 49, 50, 51, 52, 53, 54, 55, 56, 57, 58, 59, 60, 61, 62, 63, 64] (by decide +kernel) (by decide +kernel)) (goodIn_sub (fun _ h => List.mem_cons_of_mem _ (List.mem_append_right _ h)) (by decide +kernel))
set_option maxRecDepth 20000 in
theorem gL_undo_X4_undo : GoodIn wsL_undo (wsV RL 45 RX4 yX4_undo wsX4_undo) := goodIn_app (goodIn_of _ (by decide +kernel)) ggL_undo_X4_undo
theorem dL_undo_0 : decode cL_undo 0 = .ok (.aload_n 1, 1) := by decide +kernel
theorem dL_undo_1 : decode cL_undo 1 = .ok (.iconst 0, 1) := by decide +kernel
theorem dL_undo_2 : decode cL_undo 2 = .ok (.aload_n 0, 1) := by decide +kernel
theorem dL_undo_3 : decode cL_undo 3 = .ok (.invokevirtual 45, 3) := by decide +kernel
theorem dL_undo_6 : decode cL_undo 6 = .ok (.i2l, 1) := by decide +kernel
theorem dL_undo_7 : decode cL_undo 7 = .ok (.lastore, 1) := by decide +kernel
theorem dL_undo_8 : decode cL_undo 8 = .ok (.goto 6, 3) := by decide +kernel
theorem dL_undo_11 : decode cL_undo 11 = .ok (.astore_n 2, 1) := by decide +kernel
theorem dL_undo_12 : decode cL_undo 12 = .ok (.iconst 1, 1) := by decide +kernel
theorem dL_undo_13 : decode cL_undo 13 = .ok (.ireturn, 1) := by decide +kernel
theorem dL_undo_14 : decode cL_undo 14 = .ok (.iconst 0, 1) := by decide +kernel
theorem dL_undo_15 : decode cL_undo 15 = .ok (.ireturn, 1) := by decide +kernel
set_option maxRecDepth 20000 in
theorem ggL_lampOf_X4_lampOf : GoodIn wsL_lampOf wsX4_lampOf := goodIn_ca (goodIn_ca (goodIn_r _ [7, 8, 9, 10, 11, 12, 13, 14, 15, 16, 17, 18, 19, 6, 20, 21, 22, 23, 24, 25, 26, 27, 28, 29, 30, 31, 32, 33, 34, 35, 36, 37, 38, 39, 40, 41, 42, 43, 44, 45, 46, 47, 48, 49, 50, 51, 52, 53] (by decide +kernel) (by decide +kernel)) (goodIn_sub (fun _ h => List.mem_cons_of_mem _ (List.mem_append_left _ (List.mem_append_right _ h))) (by decide +kernel))) (goodIn_sub (fun _ h => List.mem_cons_of_mem _ (List.mem_append_right _ h)) (by decide +kernel))
set_option maxRecDepth 20000 in
theorem gL_lampOf_X4_lampOf : GoodIn wsL_lampOf (wsV RL 48 RX4 yX4_lampOf wsX4_lampOf) := goodIn_app (goodIn_of _ (by decide +kernel)) ggL_lampOf_X4_lampOf
theorem dL_lampOf_0 : decode cL_lampOf 0 = .ok (.aload_n 3, 1) := by decide +kernel
theorem dL_lampOf_1 : decode cL_lampOf 1 = .ok (.iconst 0, 1) := by decide +kernel
theorem dL_lampOf_2 : decode cL_lampOf 2 = .ok (.aload_n 0, 1) := by decide +kernel
theorem dL_lampOf_3 : decode cL_lampOf 3 = .ok (.iload_n 1, 1) := by decide +kernel
theorem dL_lampOf_4 : decode cL_lampOf 4 = .ok (.iload_n 2, 1) := by decide +kernel
theorem dL_lampOf_5 : decode cL_lampOf 5 = .ok (.invokevirtual 48, 3) := by decide +kernel
theorem dL_lampOf_8 : decode cL_lampOf 8 = .ok (.i2l, 1) := by decide +kernel
theorem dL_lampOf_9 : decode cL_lampOf 9 = .ok (.lastore, 1) := by decide +kernel
theorem dL_lampOf_10 : decode cL_lampOf 10 = .ok (.goto 11, 3) := by decide +kernel
theorem dL_lampOf_13 : decode cL_lampOf 13 = .ok (.astore 4, 2) := by decide +kernel
theorem dL_lampOf_15 : decode cL_lampOf 15 = .ok (.iconst 1, 1) := by decide +kernel
theorem dL_lampOf_16 : decode cL_lampOf 16 = .ok (.ireturn, 1) := by decide +kernel
theorem dL_lampOf_17 : decode cL_lampOf 17 = .ok (.astore 4, 2) := by decide +kernel
theorem dL_lampOf_19 : decode cL_lampOf 19 = .ok (.iconst 2, 1) := by decide +kernel
theorem dL_lampOf_20 : decode cL_lampOf 20 = .ok (.ireturn, 1) := by decide +kernel
theorem dL_lampOf_21 : decode cL_lampOf 21 = .ok (.iconst 0, 1) := by decide +kernel
theorem dL_lampOf_22 : decode cL_lampOf 22 = .ok (.ireturn, 1) := by decide +kernel
set_option maxRecDepth 20000 in
theorem ggL_pulseAt_X4_pulseAt : GoodIn wsL_pulseAt wsX4_pulseAt := goodIn_ca (goodIn_r _ [6, 7, 8, 9, 10, 11, 12, 13, 14, 15, 16, 17, 18, 19, 20, 21, 22, 23, 24, 25, 26, 27, 28, 29] (by decide +kernel) (by decide +kernel)) (goodIn_sub (fun _ h => List.mem_cons_of_mem _ (List.mem_append_right _ h)) (by decide +kernel))
set_option maxRecDepth 20000 in
theorem gL_pulseAt_X4_pulseAt : GoodIn wsL_pulseAt (wsV RL 51 RX4 yX4_pulseAt wsX4_pulseAt) := goodIn_app (goodIn_of _ (by decide +kernel)) ggL_pulseAt_X4_pulseAt
theorem dL_pulseAt_0 : decode cL_pulseAt 0 = .ok (.aload_n 2, 1) := by decide +kernel
theorem dL_pulseAt_1 : decode cL_pulseAt 1 = .ok (.iconst 0, 1) := by decide +kernel
theorem dL_pulseAt_2 : decode cL_pulseAt 2 = .ok (.aload_n 0, 1) := by decide +kernel
theorem dL_pulseAt_3 : decode cL_pulseAt 3 = .ok (.iload_n 1, 1) := by decide +kernel
theorem dL_pulseAt_4 : decode cL_pulseAt 4 = .ok (.invokevirtual 51, 3) := by decide +kernel
theorem dL_pulseAt_7 : decode cL_pulseAt 7 = .ok (.i2l, 1) := by decide +kernel
theorem dL_pulseAt_8 : decode cL_pulseAt 8 = .ok (.lastore, 1) := by decide +kernel
theorem dL_pulseAt_9 : decode cL_pulseAt 9 = .ok (.goto 6, 3) := by decide +kernel
theorem dL_pulseAt_12 : decode cL_pulseAt 12 = .ok (.astore_n 3, 1) := by decide +kernel
theorem dL_pulseAt_13 : decode cL_pulseAt 13 = .ok (.iconst 1, 1) := by decide +kernel
theorem dL_pulseAt_14 : decode cL_pulseAt 14 = .ok (.ireturn, 1) := by decide +kernel
theorem dL_pulseAt_15 : decode cL_pulseAt 15 = .ok (.iconst 0, 1) := by decide +kernel
theorem dL_pulseAt_16 : decode cL_pulseAt 16 = .ok (.ireturn, 1) := by decide +kernel
set_option maxRecDepth 20000 in
theorem ggL_count_X4_count : GoodIn wsL_count wsX4_count := goodIn_ca (goodIn_r _ [6, 7, 8, 9, 10, 11, 12, 13, 14, 15, 16, 17, 18, 19, 20, 21, 22, 23, 24, 25, 26, 27, 28, 29, 30, 31, 32, 33, 34, 35, 36, 37, 38, 39, 40, 41, 42, 43, 44, 45, 46, 47, 48, 49, 50, 51, 52, 53, 54, 55, 56, 57, 58, 59, 60] (by decide +kernel) (by decide +kernel)) (goodIn_sub (fun _ h => List.mem_cons_of_mem _ (List.mem_append_right _ h)) (by decide +kernel))
set_option maxRecDepth 20000 in
theorem gL_count_X4_count : GoodIn wsL_count (wsV RL 54 RX4 yX4_count wsX4_count) := goodIn_app (goodIn_of _ (by decide +kernel)) ggL_count_X4_count
theorem dL_count_0 : decode cL_count 0 = .ok (.aload_n 2, 1) := by decide +kernel
theorem dL_count_1 : decode cL_count 1 = .ok (.iconst 0, 1) := by decide +kernel
theorem dL_count_2 : decode cL_count 2 = .ok (.aload_n 0, 1) := by decide +kernel
theorem dL_count_3 : decode cL_count 3 = .ok (.iload_n 1, 1) := by decide +kernel
theorem dL_count_4 : decode cL_count 4 = .ok (.invokevirtual 54, 3) := by decide +kernel
theorem dL_count_7 : decode cL_count 7 = .ok (.i2l, 1) := by decide +kernel
theorem dL_count_8 : decode cL_count 8 = .ok (.lastore, 1) := by decide +kernel
theorem dL_count_9 : decode cL_count 9 = .ok (.goto 6, 3) := by decide +kernel
theorem dL_count_12 : decode cL_count 12 = .ok (.astore_n 3, 1) := by decide +kernel
theorem dL_count_13 : decode cL_count 13 = .ok (.iconst 1, 1) := by decide +kernel
theorem dL_count_14 : decode cL_count 14 = .ok (.ireturn, 1) := by decide +kernel
theorem dL_count_15 : decode cL_count 15 = .ok (.iconst 0, 1) := by decide +kernel
theorem dL_count_16 : decode cL_count 16 = .ok (.ireturn, 1) := by decide +kernel
set_option maxRecDepth 20000 in
theorem ggL_setting_X4_setting : GoodIn wsL_setting wsX4_setting := goodIn_ca (goodIn_r _ [6, 7, 8, 9, 10, 11, 12, 5, 13, 14, 15, 16, 17, 18, 19, 20, 21, 22, 23, 24, 25, 26, 27, 28, 29, 30, 31] (by decide +kernel) (by decide +kernel)) (goodIn_sub (fun _ h => List.mem_cons_of_mem _ (List.mem_append_right _ h)) (by decide +kernel))
set_option maxRecDepth 20000 in
theorem gL_setting_X4_setting : GoodIn wsL_setting (wsV RL 57 RX4 yX4_setting wsX4_setting) := goodIn_app (goodIn_of _ (by decide +kernel)) ggL_setting_X4_setting
theorem dL_setting_0 : decode cL_setting 0 = .ok (.aload_n 2, 1) := by decide +kernel
theorem dL_setting_1 : decode cL_setting 1 = .ok (.iconst 0, 1) := by decide +kernel
theorem dL_setting_2 : decode cL_setting 2 = .ok (.aload_n 0, 1) := by decide +kernel
theorem dL_setting_3 : decode cL_setting 3 = .ok (.iload_n 1, 1) := by decide +kernel
theorem dL_setting_4 : decode cL_setting 4 = .ok (.invokevirtual 57, 3) := by decide +kernel
theorem dL_setting_7 : decode cL_setting 7 = .ok (.i2l, 1) := by decide +kernel
theorem dL_setting_8 : decode cL_setting 8 = .ok (.lastore, 1) := by decide +kernel
theorem dL_setting_9 : decode cL_setting 9 = .ok (.goto 6, 3) := by decide +kernel
theorem dL_setting_12 : decode cL_setting 12 = .ok (.astore_n 3, 1) := by decide +kernel
theorem dL_setting_13 : decode cL_setting 13 = .ok (.iconst 1, 1) := by decide +kernel
theorem dL_setting_14 : decode cL_setting 14 = .ok (.ireturn, 1) := by decide +kernel
theorem dL_setting_15 : decode cL_setting 15 = .ok (.iconst 0, 1) := by decide +kernel
theorem dL_setting_16 : decode cL_setting 16 = .ok (.ireturn, 1) := by decide +kernel
set_option maxRecDepth 20000 in
theorem ggL_ifGap_X4_ifGap : GoodIn wsL_ifGap wsX4_ifGap := goodIn_ca (goodIn_ca (goodIn_r _ [7, 8, 9, 10, 11, 12, 13, 14, 15, 16, 6, 17, 18, 19, 20, 21, 22, 23, 24, 25, 26, 27, 28, 29, 30, 31, 32, 33, 34, 35, 36, 37, 38, 39, 40, 41, 42, 43, 44, 45, 46, 47, 48, 49, 50, 51, 52, 53, 54, 55, 56, 57, 58, 59, 60, 61, 62, 63, 64, 65, 66, 67, 68, 69, 70, 71, 72, 73, 74, 75, 76, 77, 78, 79, 80, 81, 82, 83, 84, 85, 86, 87, 88, 89, 90, 91, 92, 93, 94, 95, 96, 97, 98, 99, 100, 101, 102, 103, 104, 105, 106, 107, 108, 109, 110, 111, 112, 113, 114] (by decide +kernel) (by decide +kernel)) (goodIn_sub (fun _ h => List.mem_cons_of_mem _ (List.mem_append_left _ (List.mem_append_right _ h))) (by decide +kernel))) (goodIn_sub (fun _ h => List.mem_cons_of_mem _ (List.mem_append_right _ h)) (by decide +kernel))
set_option maxRecDepth 20000 in
theorem gL_ifGap_X4_ifGap : GoodIn wsL_ifGap (wsV RL 60 RX4 yX4_ifGap wsX4_ifGap) := goodIn_app (goodIn_of _ (by decide +kernel)) ggL_ifGap_X4_ifGap
theorem dL_ifGap_0 : decode cL_ifGap 0 = .ok (.aload_n 3, 1) := by decide +kernel
theorem dL_ifGap_1 : decode cL_ifGap 1 = .ok (.iconst 0, 1) := by decide +kernel
theorem dL_ifGap_2 : decode cL_ifGap 2 = .ok (.aload_n 0, 1) := by decide +kernel
theorem dL_ifGap_3 : decode cL_ifGap 3 = .ok (.iload_n 1, 1) := by decide +kernel
theorem dL_ifGap_4 : decode cL_ifGap 4 = .ok (.iload_n 2, 1) := by decide +kernel
theorem dL_ifGap_5 : decode cL_ifGap 5 = .ok (.invokevirtual 60, 3) := by decide +kernel
theorem dL_ifGap_8 : decode cL_ifGap 8 = .ok (.i2l, 1) := by decide +kernel
theorem dL_ifGap_9 : decode cL_ifGap 9 = .ok (.lastore, 1) := by decide +kernel
theorem dL_ifGap_10 : decode cL_ifGap 10 = .ok (.goto 11, 3) := by decide +kernel
theorem dL_ifGap_13 : decode cL_ifGap 13 = .ok (.astore 4, 2) := by decide +kernel
theorem dL_ifGap_15 : decode cL_ifGap 15 = .ok (.iconst 1, 1) := by decide +kernel
theorem dL_ifGap_16 : decode cL_ifGap 16 = .ok (.ireturn, 1) := by decide +kernel
theorem dL_ifGap_17 : decode cL_ifGap 17 = .ok (.astore 4, 2) := by decide +kernel
theorem dL_ifGap_19 : decode cL_ifGap 19 = .ok (.iconst 2, 1) := by decide +kernel
theorem dL_ifGap_20 : decode cL_ifGap 20 = .ok (.ireturn, 1) := by decide +kernel
theorem dL_ifGap_21 : decode cL_ifGap 21 = .ok (.iconst 0, 1) := by decide +kernel
theorem dL_ifGap_22 : decode cL_ifGap 22 = .ok (.ireturn, 1) := by decide +kernel
set_option maxRecDepth 20000 in
theorem ggL_wrong_X4_wrong : GoodIn wsL_wrong wsX4_wrong := goodIn_ca (goodIn_r _ [6, 7, 8, 9, 10, 11, 5, 12, 13, 14, 15, 16, 17, 18, 19, 20, 21, 22, 23, 24, 25, 26, 27, 28, 29, 30, 31, 32, 33, 34, 35, 36, 37, 38, 39, 40, 41, 42, 43, 44, 45, 46, 47, 48, 49, 50, 51, 52, 53, 54, 55, 56, 57] (by decide +kernel) (by decide +kernel)) (goodIn_sub (fun _ h => List.mem_cons_of_mem _ (List.mem_append_right _ h)) (by decide +kernel))
set_option maxRecDepth 20000 in
theorem gL_wrong_X4_wrong : GoodIn wsL_wrong (wsV RL 63 RX4 yX4_wrong wsX4_wrong) := goodIn_app (goodIn_of _ (by decide +kernel)) ggL_wrong_X4_wrong
theorem dL_wrong_0 : decode cL_wrong 0 = .ok (.aload_n 2, 1) := by decide +kernel
theorem dL_wrong_1 : decode cL_wrong 1 = .ok (.iconst 0, 1) := by decide +kernel
theorem dL_wrong_2 : decode cL_wrong 2 = .ok (.aload_n 0, 1) := by decide +kernel
theorem dL_wrong_3 : decode cL_wrong 3 = .ok (.iload_n 1, 1) := by decide +kernel
theorem dL_wrong_4 : decode cL_wrong 4 = .ok (.invokevirtual 63, 3) := by decide +kernel
theorem dL_wrong_7 : decode cL_wrong 7 = .ok (.i2l, 1) := by decide +kernel
theorem dL_wrong_8 : decode cL_wrong 8 = .ok (.lastore, 1) := by decide +kernel
theorem dL_wrong_9 : decode cL_wrong 9 = .ok (.goto 6, 3) := by decide +kernel
theorem dL_wrong_12 : decode cL_wrong 12 = .ok (.astore_n 3, 1) := by decide +kernel
theorem dL_wrong_13 : decode cL_wrong 13 = .ok (.iconst 1, 1) := by decide +kernel
theorem dL_wrong_14 : decode cL_wrong 14 = .ok (.ireturn, 1) := by decide +kernel
theorem dL_wrong_15 : decode cL_wrong 15 = .ok (.iconst 0, 1) := by decide +kernel
theorem dL_wrong_16 : decode cL_wrong 16 = .ok (.ireturn, 1) := by decide +kernel
set_option maxRecDepth 20000 in
theorem ggL_bears_X4_bears : GoodIn wsL_bears wsX4_bears := goodIn_ca (goodIn_r _ [6, 7, 8, 9, 10, 11, 5, 12, 13, 14, 15, 16, 17, 18, 19, 20, 21, 22, 23, 24, 25, 26, 27, 28, 29, 30, 31, 32, 33, 34, 35, 36, 37, 38, 39, 40, 41, 42, 43, 44, 45, 46, 47, 48, 49, 50, 51, 52, 53, 54, 55, 56, 57] (by decide +kernel) (by decide +kernel)) (goodIn_sub (fun _ h => List.mem_cons_of_mem _ (List.mem_append_right _ h)) (by decide +kernel))
set_option maxRecDepth 20000 in
theorem gL_bears_X4_bears : GoodIn wsL_bears (wsV RL 66 RX4 yX4_bears wsX4_bears) := goodIn_app (goodIn_of _ (by decide +kernel)) ggL_bears_X4_bears
theorem dL_bears_0 : decode cL_bears 0 = .ok (.aload_n 2, 1) := by decide +kernel
theorem dL_bears_1 : decode cL_bears 1 = .ok (.iconst 0, 1) := by decide +kernel
theorem dL_bears_2 : decode cL_bears 2 = .ok (.aload_n 0, 1) := by decide +kernel
theorem dL_bears_3 : decode cL_bears 3 = .ok (.iload_n 1, 1) := by decide +kernel
theorem dL_bears_4 : decode cL_bears 4 = .ok (.invokevirtual 66, 3) := by decide +kernel
theorem dL_bears_7 : decode cL_bears 7 = .ok (.i2l, 1) := by decide +kernel
theorem dL_bears_8 : decode cL_bears 8 = .ok (.lastore, 1) := by decide +kernel
theorem dL_bears_9 : decode cL_bears 9 = .ok (.goto 6, 3) := by decide +kernel
theorem dL_bears_12 : decode cL_bears 12 = .ok (.astore_n 3, 1) := by decide +kernel
theorem dL_bears_13 : decode cL_bears 13 = .ok (.iconst 1, 1) := by decide +kernel
theorem dL_bears_14 : decode cL_bears 14 = .ok (.ireturn, 1) := by decide +kernel
theorem dL_bears_15 : decode cL_bears 15 = .ok (.iconst 0, 1) := by decide +kernel
theorem dL_bears_16 : decode cL_bears 16 = .ok (.ireturn, 1) := by decide +kernel
set_option maxRecDepth 20000 in
theorem ggL_wordsTo_X4_wordsTo : GoodIn wsL_wordsTo wsX4_wordsTo := goodIn_ca (goodIn_r _ [6, 7, 8, 9, 10, 11, 5, 12, 13, 14, 15, 16, 17, 18, 19, 20, 21, 22, 23, 24, 25, 26, 27, 28, 29, 30, 31, 32, 33, 34, 35, 36, 37, 38, 39, 40] (by decide +kernel) (by decide +kernel)) (goodIn_sub (fun _ h => List.mem_cons_of_mem _ (List.mem_append_right _ h)) (by decide +kernel))
set_option maxRecDepth 20000 in
theorem gL_wordsTo_X4_wordsTo : GoodIn wsL_wordsTo (wsV RL 69 RX4 yX4_wordsTo wsX4_wordsTo) := goodIn_app (goodIn_of _ (by decide +kernel)) ggL_wordsTo_X4_wordsTo
theorem dL_wordsTo_0 : decode cL_wordsTo 0 = .ok (.aload_n 2, 1) := by decide +kernel
theorem dL_wordsTo_1 : decode cL_wordsTo 1 = .ok (.iconst 0, 1) := by decide +kernel
theorem dL_wordsTo_2 : decode cL_wordsTo 2 = .ok (.aload_n 0, 1) := by decide +kernel
theorem dL_wordsTo_3 : decode cL_wordsTo 3 = .ok (.iload_n 1, 1) := by decide +kernel
theorem dL_wordsTo_4 : decode cL_wordsTo 4 = .ok (.invokevirtual 69, 3) := by decide +kernel
theorem dL_wordsTo_7 : decode cL_wordsTo 7 = .ok (.i2l, 1) := by decide +kernel
theorem dL_wordsTo_8 : decode cL_wordsTo 8 = .ok (.lastore, 1) := by decide +kernel
theorem dL_wordsTo_9 : decode cL_wordsTo 9 = .ok (.goto 6, 3) := by decide +kernel
theorem dL_wordsTo_12 : decode cL_wordsTo 12 = .ok (.astore_n 3, 1) := by decide +kernel
theorem dL_wordsTo_13 : decode cL_wordsTo 13 = .ok (.iconst 1, 1) := by decide +kernel
theorem dL_wordsTo_14 : decode cL_wordsTo 14 = .ok (.ireturn, 1) := by decide +kernel
theorem dL_wordsTo_15 : decode cL_wordsTo 15 = .ok (.iconst 0, 1) := by decide +kernel
theorem dL_wordsTo_16 : decode cL_wordsTo 16 = .ok (.ireturn, 1) := by decide +kernel
set_option maxRecDepth 20000 in
theorem ggL_law_X4_init : GoodIn wsL_law wsX4_init := goodIn_r _ [9, 10, 11, 12, 13, 14, 15, 16, 17, 18, 19, 20, 21, 22, 23, 24, 25, 26, 27, 28, 29, 30, 31, 32, 33, 34, 35, 36, 37, 38, 39, 40, 41, 42, 43, 44, 45, 46, 47, 48, 49, 50, 51, 52, 53, 54, 55, 56, 743, 744, 745, 746, 747, 748, 749, 750, 751, 752, 753, 754, 755, 725, 726, 727, 728, 729, 756, 757, 758, 759, 760, 761, 762, 763, 764, 765] (by decide +kernel) (by decide +kernel)
set_option maxRecDepth 20000 in
theorem gL_law_X4_init : GoodIn wsL_law (wsX4_init) := ggL_law_X4_init
set_option maxRecDepth 20000 in
theorem ggL_law_X5_init : GoodIn wsL_law wsX5_init := goodIn_r _ [59, 60, 11, 12, 33, 61, 62, 63, 64, 65, 66, 67, 68, 730, 731, 732, 733, 734, 735, 736, 737, 738, 739, 740, 741, 742] (by decide +kernel) (by decide +kernel)
set_option maxRecDepth 20000 in
theorem gL_law_X5_init : GoodIn wsL_law (wsX5_init) := ggL_law_X5_init
set_option maxRecDepth 20000 in
theorem ggL_law_L_mode : GoodIn wsL_law wsL_mode := goodIn_ca (goodIn_ca (goodIn_r _ [72, 73, 74, 75, 76, 77, 2, 78, 79, 80, 81, 82, 28, 16, 83, 84, 85, 86, 87, 88, 89, 27, 90, 91, 56, 55, 14, 15, 92, 93, 94, 95, 30, 31, 32, 11, 12, 33, 34, 35, 36, 37, 38, 39, 40, 96, 97, 98, 99, 100, 101, 102, 103, 104, 105, 106, 107, 108, 109, 725, 726, 727, 728, 729, 743, 744, 745, 746, 747, 748, 749, 750, 751, 752, 753, 754, 755, 764, 765] (by decide +kernel) (by decide +kernel)) (goodIn_sub (fun _ h => List.mem_append_left _ (List.mem_append_left _ (List.mem_append_right _ h))) (by decide +kernel))) (goodIn_sub (fun _ h => List.mem_append_left _ (List.mem_append_right _ h)) (by decide +kernel))
set_option maxRecDepth 20000 in
theorem gL_law_L_mode : GoodIn wsL_law (va_wsS RL 76 yL_mode wsL_mode) := goodIn_app (goodIn_of _ (by decide +kernel)) ggL_law_L_mode
set_option maxRecDepth 20000 in
theorem ggL_law_X5_mode : GoodIn wsL_law wsX5_mode := goodIn_r _ [113, 114, 115, 5, 116, 117, 118, 119, 120, 121, 122, 123, 124, 125, 126, 127, 128, 61, 129, 130, 131, 132, 133, 62, 134, 135, 136, 730, 731, 732, 733, 734, 735, 736, 737, 738, 739, 740, 741, 742] (by decide +kernel) (by decide +kernel)
set_option maxRecDepth 20000 in
theorem gL_law_X5_mode : GoodIn wsL_law (wsV RL 81 RX5 yX5_mode wsX5_mode) := goodIn_app (goodIn_of _ (by decide +kernel)) ggL_law_X5_mode
set_option maxRecDepth 20000 in
theorem ggL_law_X5_thrown : GoodIn wsL_law wsX5_thrown := goodIn_r _ [140, 124, 730, 731, 732, 733, 734, 735, 736, 737, 738, 739, 740, 741, 742] (by decide +kernel) (by decide +kernel)
set_option maxRecDepth 20000 in
theorem gL_law_X5_thrown : GoodIn wsL_law (wsV RL 82 RX5 yX5_thrown wsX5_thrown) := goodIn_app (goodIn_of _ (by decide +kernel)) ggL_law_X5_thrown
set_option maxRecDepth 20000 in
theorem ggL_law_L_loss : GoodIn wsL_law wsL_loss := goodIn_ca (goodIn_ca (goodIn_r _ [143, 73, 74, 144, 145, 146, 2, 147, 79, 80, 81, 82, 28, 16, 148, 84, 85, 86, 87, 88, 89, 27, 90, 91, 56, 55, 14, 15, 92, 93, 94, 95, 30, 31, 32, 11, 12, 33, 34, 35, 36, 37, 38, 39, 40, 96, 97, 98, 99, 100, 101, 102, 103, 104, 105, 106, 107, 108, 109, 725, 726, 727, 728, 729, 743, 744, 745, 746, 747, 748, 749, 750, 751, 752, 753, 754, 755, 764, 765] (by decide +kernel) (by decide +kernel)) (goodIn_sub (fun _ h => List.mem_append_left _ (List.mem_append_left _ (List.mem_append_right _ h))) (by decide +kernel))) (goodIn_sub (fun _ h => List.mem_append_left _ (List.mem_append_right _ h)) (by decide +kernel))
set_option maxRecDepth 20000 in
theorem gL_law_L_loss : GoodIn wsL_law (va_wsS RL 85 yL_loss wsL_loss) := goodIn_app (goodIn_of _ (by decide +kernel)) ggL_law_L_loss
set_option maxRecDepth 20000 in
theorem ggL_law_X5_loss : GoodIn wsL_law wsX5_loss := goodIn_r _ [152, 114, 115, 5, 116, 117, 118, 119, 120, 121, 122, 123, 124, 125, 126, 127, 128, 61, 129, 130, 131, 132, 133, 62, 134, 135, 136, 730, 731, 732, 733, 734, 735, 736, 737, 738, 739, 740, 741, 742] (by decide +kernel) (by decide +kernel)
set_option maxRecDepth 20000 in
theorem gL_law_X5_loss : GoodIn wsL_law (wsV RL 87 RX5 yX5_loss wsX5_loss) := goodIn_app (goodIn_of _ (by decide +kernel)) ggL_law_X5_loss
set_option maxRecDepth 20000 in
theorem ggL_law_L_set : GoodIn wsL_law wsL_set := goodIn_ca (goodIn_ca (goodIn_r _ [155, 73, 74, 156, 157, 158, 2, 159, 79, 80, 81, 82, 160, 161, 28, 16, 162, 163, 164, 165, 87, 88, 89, 27, 90, 91, 56, 55, 14, 15, 92, 93, 94, 95, 30, 31, 32, 11, 12, 33, 34, 35, 36, 37, 38, 39, 40, 96, 97, 98, 99, 100, 101, 102, 103, 104, 105, 106, 107, 108, 109, 725, 726, 727, 728, 729, 743, 744, 745, 746, 747, 748, 749, 750, 751, 752, 753, 754, 755, 764, 765] (by decide +kernel) (by decide +kernel)) (goodIn_sub (fun _ h => List.mem_append_left _ (List.mem_append_left _ (List.mem_append_right _ h))) (by decide +kernel))) (goodIn_sub (fun _ h => List.mem_append_left _ (List.mem_append_right _ h)) (by decide +kernel))
set_option maxRecDepth 20000 in
theorem gL_law_L_set : GoodIn wsL_law (va_wsS RL 88 yL_set wsL_set) := goodIn_app (goodIn_of _ (by decide +kernel)) ggL_law_L_set
set_option maxRecDepth 20000 in
theorem ggL_law_X5_set : GoodIn wsL_law wsX5_set := goodIn_r _ [169, 117, 118, 5, 119, 170, 171, 172, 120, 121, 122, 123, 124, 125, 126, 127, 128, 61, 129, 130, 131, 132, 133, 62, 134, 135, 136, 730, 731, 732, 733, 734, 735, 736, 737, 738, 739, 740, 741, 742] (by decide +kernel) (by decide +kernel)
set_option maxRecDepth 20000 in
theorem gL_law_X5_set : GoodIn wsL_law (wsV RL 90 RX5 yX5_set wsX5_set) := goodIn_app (goodIn_of _ (by decide +kernel)) ggL_law_X5_set
set_option maxRecDepth 20000 in
theorem ggL_law_L_pulse : GoodIn wsL_law wsL_pulse := goodIn_ca (goodIn_r _ [175, 74, 176, 177, 178, 2, 179, 81, 82, 28, 16, 180, 87, 88, 89, 27, 90, 91, 56, 55, 14, 15, 92, 93, 94, 95, 30, 31, 32, 11, 12, 33, 34, 35, 36, 37, 38, 39, 40, 96, 97, 98, 99, 100, 101, 102, 103, 104, 105, 106, 107, 108, 109, 181, 182, 183, 184, 185, 186, 187, 188, 189, 190, 191, 192, 193, 725, 726, 727, 728, 729, 743, 744, 745, 746, 747, 748, 749, 750, 751, 752, 753, 754, 755, 764, 765] (by decide +kernel) (by decide +kernel)) (goodIn_sub (fun _ h => List.mem_append_left _ (List.mem_append_right _ h)) (by decide +kernel))
set_option maxRecDepth 20000 in
theorem gL_law_L_pulse : GoodIn wsL_law (va_wsS RL 91 yL_pulse wsL_pulse) := goodIn_app (goodIn_of _ (by decide +kernel)) ggL_law_L_pulse
set_option maxRecDepth 20000 in
theorem ggL_law_X5_pulse : GoodIn wsL_law wsX5_pulse := goodIn_r _ [197, 61, 117, 118, 5, 119, 120, 121, 122, 123, 124, 129, 130, 131, 132, 133, 62, 134, 135, 136, 198, 199, 200, 201, 730, 731, 732, 733, 734, 735, 736, 737, 738, 739, 740, 741, 742] (by decide +kernel) (by decide +kernel)
set_option maxRecDepth 20000 in
theorem gL_law_X5_pulse : GoodIn wsL_law (wsV RL 94 RX5 yX5_pulse wsX5_pulse) := goodIn_app (goodIn_of _ (by decide +kernel)) ggL_law_X5_pulse
set_option maxRecDepth 20000 in
theorem ggL_law_L_send : GoodIn wsL_law wsL_send := goodIn_ca (goodIn_r _ [204, 74, 205, 206, 207, 2, 208, 81, 82, 28, 16, 180, 209, 210, 211, 87, 88, 89, 27, 90, 91, 56, 55, 14, 15, 92, 93, 94, 95, 30, 31, 32, 11, 12, 33, 34, 35, 36, 37, 38, 39, 40, 96, 97, 98, 99, 100, 101, 102, 103, 104, 105, 106, 107, 108, 109, 181, 182, 183, 184, 185, 186, 187, 188, 189, 212, 213, 214, 215, 216, 217, 218, 219, 191, 192, 193, 725, 726, 727, 728, 729, 743, 744, 745, 746, 747, 748, 749, 750, 751, 752, 753, 754, 755, 764, 765] (by decide +kernel) (by decide +kernel)) (goodIn_sub (fun _ h => List.mem_append_left _ (List.mem_append_right _ h)) (by decide +kernel))
set_option maxRecDepth 20000 in
theorem gL_law_L_send : GoodIn wsL_law (va_wsS RL 95 yL_send wsL_send) := goodIn_app (goodIn_of _ (by decide +kernel)) ggL_law_L_send
set_option maxRecDepth 20000 in
theorem ggL_law_X5_send : GoodIn wsL_law wsX5_send := goodIn_r _ [223, 61, 117, 118, 5, 119, 120, 121, 122, 123, 124, 129, 130, 131, 132, 133, 62, 134, 135, 136, 224, 225, 226, 227, 228, 229, 230, 198, 199, 200, 201, 730, 731, 732, 733, 734, 735, 736, 737, 738, 739, 740, 741, 742] (by decide +kernel) (by decide +kernel)
set_option maxRecDepth 20000 in
theorem gL_law_X5_send : GoodIn wsL_law (wsV RL 97 RX5 yX5_send wsX5_send) := goodIn_app (goodIn_of _ (by decide +kernel)) ggL_law_X5_send
set_option maxRecDepth 20000 in
theorem ggL_law_X4_gap : GoodIn wsL_law wsX4_gap := goodIn_r _ [234, 28, 16, 87, 88, 89, 27, 90, 91, 56, 55, 14, 15, 92, 93, 94, 95, 30, 31, 32, 11, 12, 33, 34, 35, 36, 37, 38, 39, 40, 96, 97, 98, 99, 100, 101, 102, 103, 104, 105, 106, 107, 108, 109, 235, 236, 237, 2, 238, 20, 239, 240, 241, 242, 243, 83, 244, 245, 246, 247, 180, 248, 249, 250, 19, 251, 252, 46, 253, 254, 255, 256, 257, 258, 44, 45, 259, 260, 261, 262, 263, 264, 265, 266, 267, 268, 269, 270, 271, 272, 273, 274, 275, 276, 277, 278, 279, 280, 281, 282, 283, 284, 285, 286, 287, 288, 216, 217, 218, 725, 726, 727, 728, 729, 764, 765, 743, 744, 745, 746, 747, 748, 749, 750, 751, 752, 753, 754, 755, 756, 757, 758, 759, 760, 761] (by decide +kernel) (by decide +kernel)
set_option maxRecDepth 20000 in
theorem gL_law_X4_gap : GoodIn wsL_law (wsV RL 98 RX4 yX4_gap wsX4_gap) := goodIn_app (goodIn_of _ (by decide +kernel)) ggL_law_X4_gap
set_option maxRecDepth 20000 in
theorem ggL_law_X5_gap : GoodIn wsL_law wsX5_gap := goodIn_r _ [292, 124, 129, 130, 131, 5, 132, 133, 62, 61, 134, 135, 136, 293, 294, 295, 296, 67, 297, 298, 299, 300, 301, 302, 303, 304, 305, 306, 307, 308, 309, 310, 311, 312, 313, 314, 315, 316, 317, 318, 319, 320, 321, 322, 323, 324, 325, 326, 327, 328, 329, 330, 331, 332, 333, 334, 335, 336, 228, 229, 230, 337, 338, 339, 340, 730, 731, 732, 733, 734, 735, 736, 737, 738, 739, 740, 741, 742] (by decide +kernel) (by decide +kernel)
set_option maxRecDepth 20000 in
theorem gL_law_X5_gap : GoodIn wsL_law (wsV RL 101 RX5 yX5_gap wsX5_gap) := goodIn_app (goodIn_of _ (by decide +kernel)) ggL_law_X5_gap
set_option maxRecDepth 20000 in
theorem ggL_law_X4_drop : GoodIn wsL_law wsX4_drop := goodIn_r _ [344, 28, 16, 180, 345, 87, 88, 89, 27, 90, 91, 56, 55, 14, 15, 92, 93, 94, 95, 30, 31, 32, 11, 12, 33, 34, 35, 36, 37, 38, 39, 40, 96, 97, 98, 99, 100, 101, 102, 103, 104, 105, 106, 107, 108, 109, 725, 726, 727, 728, 729, 743, 744, 745, 746, 747, 748, 749, 750, 751, 752, 753, 754, 755, 764, 765] (by decide +kernel) (by decide +kernel)
set_option maxRecDepth 20000 in
theorem gL_law_X4_drop : GoodIn wsL_law (wsV RL 102 RX4 yX4_drop wsX4_drop) := goodIn_app (goodIn_of _ (by decide +kernel)) ggL_law_X4_drop
set_option maxRecDepth 20000 in
theorem ggL_law_X5_drop : GoodIn wsL_law wsX5_drop := goodIn_r _ [349, 124, 61, 129, 130, 131, 5, 132, 133, 62, 134, 135, 136, 337, 338, 339, 340, 730, 731, 732, 733, 734, 735, 736, 737, 738, 739, 740, 741, 742] (by decide +kernel) (by decide +kernel)
set_option maxRecDepth 20000 in
theorem gL_law_X5_drop : GoodIn wsL_law (wsV RL 105 RX5 yX5_drop wsX5_drop) := goodIn_app (goodIn_of _ (by decide +kernel)) ggL_law_X5_drop
set_option maxRecDepth 20000 in
theorem ggL_law_L_append : GoodIn wsL_law wsL_append := goodIn_ca (goodIn_ca (goodIn_r _ [352, 74, 353, 354, 355, 356, 2, 357, 81, 82, 358, 359, 24, 360, 361, 362, 363, 23, 364, 365, 51, 725, 726, 727, 728, 729, 762, 763] (by decide +kernel) (by decide +kernel)) (goodIn_sub (fun _ h => List.mem_append_left _ (List.mem_append_right _ h)) (by decide +kernel))) (goodIn_sub (fun _ h => List.mem_append_right _ h) (by decide +kernel))
set_option maxRecDepth 20000 in
theorem gL_law_L_append : GoodIn wsL_law (va_wsS RL 106 yL_append wsL_append) := goodIn_app (goodIn_of _ (by decide +kernel)) ggL_law_L_append
set_option maxRecDepth 20000 in
theorem ggL_law_X5_append : GoodIn wsL_law wsX5_append := goodIn_r _ [369, 370, 66, 117, 118, 5, 119, 120, 121, 122, 123, 124, 730, 731, 732, 733, 734, 735, 736, 737, 738, 739, 740, 741, 742] (by decide +kernel) (by decide +kernel)
set_option maxRecDepth 20000 in
theorem gL_law_X5_append : GoodIn wsL_law (wsV RL 108 RX5 yX5_append wsX5_append) := goodIn_app (goodIn_of _ (by decide +kernel)) ggL_law_X5_append
set_option maxRecDepth 20000 in
theorem ggL_law_X4_clearBuffer : GoodIn wsL_law wsX4_clearBuffer := goodIn_r _ [374, 24, 360, 375, 376, 377, 23, 378, 365, 725, 726, 727, 728, 729, 762, 763] (by decide +kernel) (by decide +kernel)
set_option maxRecDepth 20000 in
theorem gL_law_X4_clearBuffer : GoodIn wsL_law (wsV RL 109 RX4 yX4_clearBuffer wsX4_clearBuffer) := goodIn_app (goodIn_of _ (by decide +kernel)) ggL_law_X4_clearBuffer
set_option maxRecDepth 20000 in
theorem ggL_law_X5_clearBuffer : GoodIn wsL_law wsX5_clearBuffer := goodIn_r _ [382, 124, 370, 730, 731, 732, 733, 734, 735, 736, 737, 738, 739, 740, 741, 742] (by decide +kernel) (by decide +kernel)
set_option maxRecDepth 20000 in
theorem gL_law_X5_clearBuffer : GoodIn wsL_law (wsV RL 112 RX5 yX5_clearBuffer wsX5_clearBuffer) := goodIn_app (goodIn_of _ (by decide +kernel)) ggL_law_X5_clearBuffer
set_option maxRecDepth 20000 in
theorem ggL_law_X4_firstError : GoodIn wsL_law wsX4_firstError := goodIn_r _ [386, 24, 387, 388, 389, 23, 390, 365, 391, 392, 393, 394, 395, 396, 397, 398, 51, 399, 400, 401, 725, 726, 727, 728, 729, 762, 763] (by decide +kernel) (by decide +kernel)
set_option maxRecDepth 20000 in
theorem gL_law_X4_firstError : GoodIn wsL_law (wsV RL 113 RX4 yX4_firstError wsX4_firstError) := goodIn_app (goodIn_of _ (by decide +kernel)) ggL_law_X4_firstError
set_option maxRecDepth 20000 in
theorem ggL_law_X5_firstError : GoodIn wsL_law wsX5_firstError := goodIn_r _ [405, 124, 370, 406, 407, 408, 409, 5, 410, 411, 412, 413, 414, 415, 416, 66, 68, 417, 418, 419, 117, 118, 119, 420, 421, 422, 423, 730, 731, 732, 733, 734, 735, 736, 737, 738, 739, 740, 741, 742] (by decide +kernel) (by decide +kernel)
set_option maxRecDepth 20000 in
theorem gL_law_X5_firstError : GoodIn wsL_law (wsV RL 116 RX5 yX5_firstError wsX5_firstError) := goodIn_app (goodIn_of _ (by decide +kernel)) ggL_law_X5_firstError
set_option maxRecDepth 20000 in
theorem ggL_law_L_load : GoodIn wsL_law wsL_load := goodIn_ca (goodIn_r _ [426, 74, 427, 428, 429, 2, 430, 81, 82, 24, 28, 16, 431, 432, 433, 23, 434, 365, 435, 436, 437, 438, 395, 396, 397, 398, 51, 439, 388, 389, 390, 391, 392, 393, 394, 399, 400, 401, 87, 88, 89, 27, 90, 91, 56, 55, 14, 15, 92, 93, 94, 95, 30, 31, 32, 11, 12, 33, 34, 35, 36, 37, 38, 39, 40, 96, 97, 98, 99, 100, 101, 102, 103, 104, 105, 106, 107, 108, 109, 181, 182, 183, 184, 375, 376, 377, 378, 185, 186, 187, 188, 189, 440, 441, 442, 443, 212, 213, 214, 215, 216, 217, 218, 219, 191, 192, 193, 444, 235, 236, 237, 238, 20, 239, 240, 241, 242, 243, 83, 244, 245, 246, 247, 180, 248, 249, 250, 19, 251, 252, 46, 253, 254, 255, 256, 257, 258, 44, 45, 259, 260, 261, 262, 263, 264, 265, 266, 267, 268, 269, 270, 271, 272, 273, 274, 275, 276, 277, 278, 279, 280, 281, 282, 283, 284, 285, 286, 287, 288, 725, 726, 727, 728, 729, 762, 763, 764, 765, 743, 744, 745, 746, 747, 748, 749, 750, 751, 752, 753, 754, 755, 756, 757, 758, 759, 760, 761] (by decide +kernel) (by decide +kernel)) (goodIn_sub (fun _ h => List.mem_append_left _ (List.mem_append_right _ h)) (by decide +kernel))
set_option maxRecDepth 20000 in
theorem gL_law_L_load : GoodIn wsL_law (va_wsS RL 117 yL_load wsL_load) := goodIn_app (goodIn_of _ (by decide +kernel)) ggL_law_L_load
set_option maxRecDepth 20000 in
theorem ggL_law_X5_load : GoodIn wsL_law wsX5_load := goodIn_r _ [448, 370, 61, 411, 68, 412, 407, 408, 409, 5, 410, 406, 413, 414, 415, 416, 66, 417, 418, 419, 117, 118, 119, 420, 421, 422, 423, 120, 121, 122, 123, 124, 129, 130, 131, 132, 133, 62, 134, 135, 136, 224, 225, 226, 227, 228, 229, 230, 198, 199, 200, 201, 293, 294, 295, 296, 67, 297, 298, 299, 300, 301, 302, 303, 304, 305, 306, 307, 308, 309, 310, 311, 312, 313, 314, 315, 316, 317, 318, 319, 320, 321, 322, 323, 324, 325, 326, 327, 328, 329, 330, 331, 332, 333, 334, 335, 336, 337, 338, 339, 340, 730, 731, 732, 733, 734, 735, 736, 737, 738, 739, 740, 741, 742] (by decide +kernel) (by decide +kernel)
set_option maxRecDepth 20000 in
theorem gL_law_X5_load : GoodIn wsL_law (wsV RL 120 RX5 yX5_load wsX5_load) := goodIn_app (goodIn_of _ (by decide +kernel)) ggL_law_X5_load
set_option maxRecDepth 20000 in
theorem ggL_law_L_keep : GoodIn wsL_law wsL_keep := goodIn_ca (goodIn_r _ [451, 74, 452, 453, 454, 2, 455, 81, 82, 29, 13, 14, 15, 16, 180, 456, 457, 458, 30, 31, 32, 11, 12, 33, 34, 35, 36, 37, 38, 39, 40, 459, 97, 98, 99, 100, 101, 102, 103, 104, 105, 106, 107, 108, 109, 725, 726, 727, 728, 729, 743, 744, 745, 746, 747, 748, 749, 750, 751, 752, 753, 754, 755] (by decide +kernel) (by decide +kernel)) (goodIn_sub (fun _ h => List.mem_append_left _ (List.mem_append_right _ h)) (by decide +kernel))
set_option maxRecDepth 20000 in
theorem gL_law_L_keep : GoodIn wsL_law (va_wsS RL 121 yL_keep wsL_keep) := goodIn_app (goodIn_of _ (by decide +kernel)) ggL_law_L_keep
set_option maxRecDepth 20000 in
theorem ggL_law_X5_keep : GoodIn wsL_law wsX5_keep := goodIn_r _ [463, 61, 63, 65, 117, 118, 5, 119, 120, 121, 122, 123, 124, 134, 135, 136, 730, 731, 732, 733, 734, 735, 736, 737, 738, 739, 740, 741, 742] (by decide +kernel) (by decide +kernel)
set_option maxRecDepth 20000 in
theorem gL_law_X5_keep : GoodIn wsL_law (wsV RL 123 RX5 yX5_keep wsX5_keep) := goodIn_app (goodIn_of _ (by decide +kernel)) ggL_law_X5_keep
set_option maxRecDepth 20000 in
theorem ggL_law_L_goBack : GoodIn wsL_law wsL_goBack := goodIn_ca (goodIn_ca (goodIn_r _ [466, 74, 353, 467, 468, 469, 2, 470, 81, 82, 358, 359, 29, 28, 16, 180, 456, 457, 458, 87, 88, 89, 27, 90, 91, 56, 55, 14, 15, 92, 93, 94, 95, 30, 31, 32, 11, 12, 33, 34, 35, 36, 37, 38, 39, 40, 96, 97, 98, 99, 100, 101, 102, 103, 104, 105, 106, 107, 108, 109, 459, 725, 726, 727, 728, 729, 743, 744, 745, 746, 747, 748, 749, 750, 751, 752, 753, 754, 755, 764, 765] (by decide +kernel) (by decide +kernel)) (goodIn_sub (fun _ h => List.mem_append_left _ (List.mem_append_right _ h)) (by decide +kernel))) (goodIn_sub (fun _ h => List.mem_append_right _ h) (by decide +kernel))
set_option maxRecDepth 20000 in
theorem gL_law_L_goBack : GoodIn wsL_law (va_wsS RL 124 yL_goBack wsL_goBack) := goodIn_app (goodIn_of _ (by decide +kernel)) ggL_law_L_goBack
set_option maxRecDepth 20000 in
theorem ggL_law_X5_goBack : GoodIn wsL_law wsX5_goBack := goodIn_r _ [474, 65, 63, 61, 117, 118, 5, 119, 120, 121, 122, 123, 124, 129, 130, 131, 132, 133, 62, 134, 135, 136, 730, 731, 732, 733, 734, 735, 736, 737, 738, 739, 740, 741, 742] (by decide +kernel) (by decide +kernel)
set_option maxRecDepth 20000 in
theorem gL_law_X5_goBack : GoodIn wsL_law (wsV RL 126 RX5 yX5_goBack wsX5_goBack) := goodIn_app (goodIn_of _ (by decide +kernel)) ggL_law_X5_goBack
set_option maxRecDepth 20000 in
theorem ggL_law_L_undo : GoodIn wsL_law wsL_undo := goodIn_ca (goodIn_r _ [477, 353, 478, 479, 480, 2, 481, 358, 359, 28, 16, 482, 483, 484, 485, 27, 486, 91, 56, 459, 97, 98, 15, 99, 34, 100, 101, 102, 103, 35, 36, 37, 38, 39, 40, 104, 105, 106, 107, 108, 109, 487, 488, 489, 490, 725, 726, 727, 728, 729, 764, 765, 743, 744, 745, 746, 747, 748, 749, 750, 751, 752, 753, 754, 755] (by decide +kernel) (by decide +kernel)) (goodIn_sub (fun _ h => List.mem_append_right _ h) (by decide +kernel))
set_option maxRecDepth 20000 in
theorem gL_law_L_undo : GoodIn wsL_law (va_wsS RL 127 yL_undo wsL_undo) := goodIn_app (goodIn_of _ (by decide +kernel)) ggL_law_L_undo
set_option maxRecDepth 20000 in
theorem ggL_law_X5_undo : GoodIn wsL_law wsX5_undo := goodIn_r _ [494, 133, 62, 61, 120, 121, 122, 5, 123, 124, 134, 135, 136, 730, 731, 732, 733, 734, 735, 736, 737, 738, 739, 740, 741, 742] (by decide +kernel) (by decide +kernel)
set_option maxRecDepth 20000 in
theorem gL_law_X5_undo : GoodIn wsL_law (wsV RL 129 RX5 yX5_undo wsX5_undo) := goodIn_app (goodIn_of _ (by decide +kernel)) ggL_law_X5_undo
set_option maxRecDepth 20000 in
theorem ggL_law_L_lampOf : GoodIn wsL_law wsL_lampOf := goodIn_ca (goodIn_ca (goodIn_r _ [497, 73, 74, 498, 499, 500, 2, 501, 79, 80, 81, 82, 16, 83, 148, 239, 243, 241, 84, 85, 86, 502, 503, 15, 504, 505, 506, 507, 508, 37, 509, 510, 511, 512, 513, 39, 725, 726, 727, 728, 729, 743, 744, 745, 746, 747, 748, 749, 750, 751, 752, 753, 754, 755] (by decide +kernel) (by decide +kernel)) (goodIn_sub (fun _ h => List.mem_append_left _ (List.mem_append_left _ (List.mem_append_right _ h))) (by decide +kernel))) (goodIn_sub (fun _ h => List.mem_append_left _ (List.mem_append_right _ h)) (by decide +kernel))
set_option maxRecDepth 20000 in
theorem gL_law_L_lampOf : GoodIn wsL_law (va_wsS RL 130 yL_lampOf wsL_lampOf) := goodIn_app (goodIn_of _ (by decide +kernel)) ggL_law_L_lampOf
set_option maxRecDepth 20000 in
theorem ggL_law_X5_lampOf : GoodIn wsL_law wsX5_lampOf := goodIn_r _ [517, 114, 115, 5, 116, 117, 118, 119, 120, 121, 122, 123, 124, 518, 519, 520, 521, 61, 522, 523, 524, 525, 526, 527, 528, 529, 530, 531, 532, 730, 731, 732, 733, 734, 735, 736, 737, 738, 739, 740, 741, 742] (by decide +kernel) (by decide +kernel)
set_option maxRecDepth 20000 in
theorem gL_law_X5_lampOf : GoodIn wsL_law (wsV RL 132 RX5 yX5_lampOf wsX5_lampOf) := goodIn_app (goodIn_of _ (by decide +kernel)) ggL_law_X5_lampOf
set_option maxRecDepth 20000 in
theorem ggL_law_L_pulseAt : GoodIn wsL_law wsL_pulseAt := goodIn_ca (goodIn_r _ [535, 74, 536, 537, 538, 2, 539, 81, 82, 16, 180, 540, 725, 726, 727, 728, 729, 743, 744, 745, 746, 747, 748, 749, 750, 751, 752, 753, 754, 755] (by decide +kernel) (by decide +kernel)) (goodIn_sub (fun _ h => List.mem_append_left _ (List.mem_append_right _ h)) (by decide +kernel))
set_option maxRecDepth 20000 in
theorem gL_law_L_pulseAt : GoodIn wsL_law (va_wsS RL 133 yL_pulseAt wsL_pulseAt) := goodIn_app (goodIn_of _ (by decide +kernel)) ggL_law_L_pulseAt
set_option maxRecDepth 20000 in
theorem ggL_law_X5_pulseAt : GoodIn wsL_law wsX5_pulseAt := goodIn_r _ [544, 61, 120, 121, 122, 5, 123, 124, 730, 731, 732, 733, 734, 735, 736, 737, 738, 739, 740, 741, 742] (by decide +kernel) (by decide +kernel)
set_option maxRecDepth 20000 in
theorem gL_law_X5_pulseAt : GoodIn wsL_law (wsV RL 135 RX5 yX5_pulseAt wsX5_pulseAt) := goodIn_app (goodIn_of _ (by decide +kernel)) ggL_law_X5_pulseAt
set_option maxRecDepth 20000 in
theorem ggL_law_L_count : GoodIn wsL_law wsL_count := goodIn_ca (goodIn_r _ [547, 74, 548, 549, 550, 2, 551, 81, 82, 16, 180, 244, 245, 247, 345, 189, 28, 482, 505, 506, 507, 15, 508, 37, 509, 503, 504, 552, 553, 554, 555, 556, 557, 511, 512, 513, 39, 558, 559, 560, 561, 725, 726, 727, 728, 729, 743, 744, 745, 746, 747, 748, 749, 750, 751, 752, 753, 754, 755, 764, 765] (by decide +kernel) (by decide +kernel)) (goodIn_sub (fun _ h => List.mem_append_left _ (List.mem_append_right _ h)) (by decide +kernel))
set_option maxRecDepth 20000 in
theorem gL_law_L_count : GoodIn wsL_law (va_wsS RL 136 yL_count wsL_count) := goodIn_app (goodIn_of _ (by decide +kernel)) ggL_law_L_count
set_option maxRecDepth 20000 in
theorem ggL_law_X5_count : GoodIn wsL_law wsX5_count := goodIn_r _ [565, 117, 118, 5, 119, 120, 121, 122, 123, 124, 566, 567, 568, 569, 61, 133, 526, 527, 528, 529, 530, 531, 532, 570, 571, 572, 573, 522, 523, 524, 525, 574, 575, 576, 577, 730, 731, 732, 733, 734, 735, 736, 737, 738, 739, 740, 741, 742] (by decide +kernel) (by decide +kernel)
set_option maxRecDepth 20000 in
theorem gL_law_X5_count : GoodIn wsL_law (wsV RL 138 RX5 yX5_count wsX5_count) := goodIn_app (goodIn_of _ (by decide +kernel)) ggL_law_X5_count
set_option maxRecDepth 20000 in
theorem ggL_law_L_setting : GoodIn wsL_law wsL_setting := goodIn_ca (goodIn_r _ [580, 73, 581, 582, 583, 2, 584, 79, 80, 16, 162, 163, 164, 165, 725, 726, 727, 728, 729, 743, 744, 745, 746, 747, 748, 749, 750, 751, 752, 753, 754, 755] (by decide +kernel) (by decide +kernel)) (goodIn_sub (fun _ h => List.mem_append_left _ (List.mem_append_left _ (List.mem_append_right _ h))) (by decide +kernel))
set_option maxRecDepth 20000 in
theorem gL_law_L_setting : GoodIn wsL_law (va_wsS RL 139 yL_setting wsL_setting) := goodIn_app (goodIn_of _ (by decide +kernel)) ggL_law_L_setting
set_option maxRecDepth 20000 in
theorem ggL_law_X5_setting : GoodIn wsL_law wsX5_setting := goodIn_r _ [588, 61, 117, 118, 5, 119, 120, 121, 122, 123, 124, 730, 731, 732, 733, 734, 735, 736, 737, 738, 739, 740, 741, 742] (by decide +kernel) (by decide +kernel)
set_option maxRecDepth 20000 in
theorem gL_law_X5_setting : GoodIn wsL_law (wsV RL 141 RX5 yX5_setting wsX5_setting) := goodIn_app (goodIn_of _ (by decide +kernel)) ggL_law_X5_setting
set_option maxRecDepth 20000 in
theorem ggL_law_L_ifGap : GoodIn wsL_law wsL_ifGap := goodIn_ca (goodIn_ca (goodIn_r _ [591, 73, 74, 592, 593, 594, 2, 595, 79, 80, 81, 82, 16, 20, 240, 84, 85, 86, 596, 597, 598, 15, 599, 104, 36, 40, 600, 601, 602, 603, 34, 604, 269, 270, 271, 605, 606, 607, 608, 35, 609, 266, 267, 610, 285, 286, 287, 39, 288, 281, 282, 283, 216, 217, 218, 248, 249, 250, 19, 251, 252, 46, 253, 101, 102, 103, 254, 255, 256, 257, 258, 44, 45, 259, 260, 261, 262, 263, 264, 265, 268, 272, 273, 274, 275, 276, 277, 278, 279, 280, 284, 725, 726, 727, 728, 729, 756, 757, 758, 759, 760, 761, 743, 744, 745, 746, 747, 748, 749, 750, 751, 752, 753, 754, 755] (by decide +kernel) (by decide +kernel)) (goodIn_sub (fun _ h => List.mem_append_left _ (List.mem_append_left _ (List.mem_append_right _ h))) (by decide +kernel))) (goodIn_sub (fun _ h => List.mem_append_left _ (List.mem_append_right _ h)) (by decide +kernel))
set_option maxRecDepth 20000 in
theorem gL_law_L_ifGap : GoodIn wsL_law (va_wsS RL 142 yL_ifGap wsL_ifGap) := goodIn_app (goodIn_of _ (by decide +kernel)) ggL_law_L_ifGap
set_option maxRecDepth 20000 in
theorem ggL_law_X5_ifGap : GoodIn wsL_law wsX5_ifGap := goodIn_r _ [614, 67, 114, 115, 5, 116, 117, 118, 119, 120, 121, 122, 123, 124, 325, 326, 327, 328, 61, 301, 302, 303, 304, 305, 306, 307, 308, 309, 310, 311, 312, 313, 314, 315, 316, 317, 318, 319, 320, 321, 322, 323, 324, 329, 330, 331, 332, 333, 334, 335, 336, 228, 229, 230, 730, 731, 732, 733, 734, 735, 736, 737, 738, 739, 740, 741, 742] (by decide +kernel) (by decide +kernel)
set_option maxRecDepth 20000 in
theorem gL_law_X5_ifGap : GoodIn wsL_law (wsV RL 144 RX5 yX5_ifGap wsX5_ifGap) := goodIn_app (goodIn_of _ (by decide +kernel)) ggL_law_X5_ifGap
set_option maxRecDepth 20000 in
theorem ggL_law_L_wrong : GoodIn wsL_law wsL_wrong := goodIn_ca (goodIn_r _ [617, 74, 618, 619, 620, 2, 621, 81, 82, 16, 209, 210, 211, 622, 623, 624, 15, 625, 35, 36, 34, 609, 266, 267, 604, 269, 270, 271, 288, 281, 282, 283, 39, 610, 285, 286, 287, 216, 217, 218, 725, 726, 727, 728, 729, 743, 744, 745, 746, 747, 748, 749, 750, 751, 752, 753, 754, 755] (by decide +kernel) (by decide +kernel)) (goodIn_sub (fun _ h => List.mem_append_left _ (List.mem_append_right _ h)) (by decide +kernel))
set_option maxRecDepth 20000 in
theorem gL_law_L_wrong : GoodIn wsL_law (va_wsS RL 145 yL_wrong wsL_wrong) := goodIn_app (goodIn_of _ (by decide +kernel)) ggL_law_L_wrong
set_option maxRecDepth 20000 in
theorem ggL_law_X5_wrong : GoodIn wsL_law wsX5_wrong := goodIn_r _ [629, 117, 118, 5, 119, 120, 121, 122, 123, 124, 630, 631, 632, 633, 67, 61, 325, 326, 327, 328, 301, 302, 303, 304, 305, 306, 307, 308, 309, 310, 311, 312, 313, 314, 315, 316, 317, 318, 319, 320, 321, 322, 323, 324, 329, 330, 331, 332, 333, 334, 335, 336, 228, 229, 230, 730, 731, 732, 733, 734, 735, 736, 737, 738, 739, 740, 741, 742] (by decide +kernel) (by decide +kernel)
set_option maxRecDepth 20000 in
theorem gL_law_X5_wrong : GoodIn wsL_law (wsV RL 147 RX5 yX5_wrong wsX5_wrong) := goodIn_app (goodIn_of _ (by decide +kernel)) ggL_law_X5_wrong
set_option maxRecDepth 20000 in
theorem ggL_law_L_bears : GoodIn wsL_law wsL_bears := goodIn_ca (goodIn_r _ [636, 73, 637, 638, 639, 2, 640, 79, 80, 16, 84, 85, 86, 622, 623, 624, 15, 625, 35, 36, 34, 609, 266, 267, 604, 269, 270, 271, 288, 281, 282, 283, 39, 610, 285, 286, 287, 216, 217, 218, 725, 726, 727, 728, 729, 743, 744, 745, 746, 747, 748, 749, 750, 751, 752, 753, 754, 755] (by decide +kernel) (by decide +kernel)) (goodIn_sub (fun _ h => List.mem_append_left _ (List.mem_append_left _ (List.mem_append_right _ h))) (by decide +kernel))
set_option maxRecDepth 20000 in
theorem gL_law_L_bears : GoodIn wsL_law (va_wsS RL 148 yL_bears wsL_bears) := goodIn_app (goodIn_of _ (by decide +kernel)) ggL_law_L_bears
set_option maxRecDepth 20000 in
theorem ggL_law_X5_bears : GoodIn wsL_law wsX5_bears := goodIn_r _ [644, 114, 115, 5, 116, 117, 118, 119, 120, 121, 122, 123, 124, 645, 646, 647, 648, 61, 630, 631, 632, 633, 67, 325, 326, 327, 328, 301, 302, 303, 304, 305, 306, 307, 308, 309, 310, 311, 312, 313, 314, 315, 316, 317, 318, 319, 320, 321, 322, 323, 324, 329, 330, 331, 332, 333, 334, 335, 336, 228, 229, 230, 730, 731, 732, 733, 734, 735, 736, 737, 738, 739, 740, 741, 742] (by decide +kernel) (by decide +kernel)
set_option maxRecDepth 20000 in
theorem gL_law_X5_bears : GoodIn wsL_law (wsV RL 150 RX5 yX5_bears wsX5_bears) := goodIn_app (goodIn_of _ (by decide +kernel)) ggL_law_X5_bears
set_option maxRecDepth 20000 in
theorem ggL_law_X4_brokenAt : GoodIn wsL_law wsX4_brokenAt := goodIn_r _ [652, 16, 83, 725, 726, 727, 728, 729, 743, 744, 745, 746, 747, 748, 749, 750, 751, 752, 753, 754, 755] (by decide +kernel) (by decide +kernel)
set_option maxRecDepth 20000 in
theorem gL_law_X4_brokenAt : GoodIn wsL_law (wsV RL 151 RX4 yX4_brokenAt wsX4_brokenAt) := goodIn_app (goodIn_of _ (by decide +kernel)) ggL_law_X4_brokenAt
set_option maxRecDepth 20000 in
theorem ggL_law_X5_brokenAt : GoodIn wsL_law wsX5_brokenAt := goodIn_r _ [656, 124, 67, 309, 310, 311, 5, 312, 313, 314, 315, 316, 61, 317, 318, 319, 320, 305, 306, 307, 308, 321, 322, 323, 324, 730, 731, 732, 733, 734, 735, 736, 737, 738, 739, 740, 741, 742] (by decide +kernel) (by decide +kernel)
set_option maxRecDepth 20000 in
theorem gL_law_X5_brokenAt : GoodIn wsL_law (wsV RL 154 RX5 yX5_brokenAt wsX5_brokenAt) := goodIn_app (goodIn_of _ (by decide +kernel)) ggL_law_X5_brokenAt
set_option maxRecDepth 20000 in
theorem ggL_law_L_wordsTo : GoodIn wsL_law wsL_wordsTo := goodIn_ca (goodIn_r _ [659, 73, 660, 661, 662, 2, 663, 79, 80, 16, 84, 85, 86, 664, 601, 602, 15, 603, 34, 604, 269, 270, 271, 725, 726, 727, 728, 729, 743, 744, 745, 746, 747, 748, 749, 750, 751, 752, 753, 754, 755] (by decide +kernel) (by decide +kernel)) (goodIn_sub (fun _ h => List.mem_append_left _ (List.mem_append_left _ (List.mem_append_right _ h))) (by decide +kernel))
set_option maxRecDepth 20000 in
theorem gL_law_L_wordsTo : GoodIn wsL_law (va_wsS RL 155 yL_wordsTo wsL_wordsTo) := goodIn_app (goodIn_of _ (by decide +kernel)) ggL_law_L_wordsTo
set_option maxRecDepth 20000 in
theorem ggL_law_X5_wordsTo : GoodIn wsL_law wsX5_wordsTo := goodIn_r _ [668, 114, 115, 5, 116, 117, 118, 119, 120, 121, 122, 123, 124, 669, 670, 671, 672, 305, 306, 307, 308, 61, 321, 322, 323, 324, 317, 318, 319, 320, 730, 731, 732, 733, 734, 735, 736, 737, 738, 739, 740, 741, 742] (by decide +kernel) (by decide +kernel)
set_option maxRecDepth 20000 in
theorem gL_law_X5_wordsTo : GoodIn wsL_law (wsV RL 157 RX5 yX5_wordsTo wsX5_wordsTo) := goodIn_app (goodIn_of _ (by decide +kernel)) ggL_law_X5_wordsTo
set_option maxRecDepth 20000 in
theorem ggL_law_X4_brightness : GoodIn wsL_law wsX4_brightness := goodIn_r _ [676, 16, 677, 552, 553, 554, 15, 555, 37, 556, 506, 507, 508, 509, 503, 504, 557, 511, 512, 513, 39, 725, 726, 727, 728, 729, 743, 744, 745, 746, 747, 748, 749, 750, 751, 752, 753, 754, 755] (by decide +kernel) (by decide +kernel)
set_option maxRecDepth 20000 in
theorem gL_law_X4_brightness : GoodIn wsL_law (wsV RL 158 RX4 yX4_brightness wsX4_brightness) := goodIn_app (goodIn_of _ (by decide +kernel)) ggL_law_X4_brightness
set_option maxRecDepth 20000 in
theorem ggL_law_X5_brightness : GoodIn wsL_law wsX5_brightness := goodIn_r _ [681, 124, 682, 570, 571, 572, 5, 573, 522, 523, 524, 525, 61, 526, 527, 528, 529, 530, 531, 532, 730, 731, 732, 733, 734, 735, 736, 737, 738, 739, 740, 741, 742] (by decide +kernel) (by decide +kernel)
set_option maxRecDepth 20000 in
theorem gL_law_X5_brightness : GoodIn wsL_law (wsV RL 162 RX5 yX5_brightness wsX5_brightness) := goodIn_app (goodIn_of _ (by decide +kernel)) ggL_law_X5_brightness
set_option maxRecDepth 20000 in
theorem ggL_law_X4_digest : GoodIn wsL_law wsX4_digest := goodIn_ca (goodIn_ca (goodIn_r _ [686, 687, 688, 16, 162, 180, 540, 29, 24, 360, 689, 690, 549, 550, 2, 551, 81, 82, 244, 245, 247, 345, 189, 28, 482, 505, 506, 507, 15, 508, 37, 509, 503, 504, 552, 553, 554, 555, 556, 557, 511, 512, 513, 39, 558, 559, 560, 561, 691, 692, 693, 694, 20, 240, 248, 249, 250, 19, 251, 252, 46, 253, 101, 102, 103, 254, 255, 256, 257, 258, 44, 45, 259, 260, 261, 262, 263, 264, 265, 266, 267, 268, 269, 270, 271, 34, 272, 273, 274, 275, 276, 277, 278, 279, 280, 281, 282, 283, 284, 285, 286, 287, 288, 216, 217, 218, 695, 499, 500, 501, 79, 80, 83, 148, 239, 243, 241, 84, 85, 86, 502, 510, 596, 597, 598, 599, 104, 36, 40, 600, 601, 602, 603, 604, 605, 606, 607, 608, 35, 609, 610, 696, 638, 639, 640, 622, 623, 624, 625, 664, 697, 619, 620, 621, 209, 210, 211, 698, 650, 651, 652, 699, 674, 675, 676, 677, 700, 701, 702, 703, 704, 725, 726, 727, 728, 729, 743, 744, 745, 746, 747, 748, 749, 750, 751, 752, 753, 754, 755, 762, 763, 764, 765, 756, 757, 758, 759, 760, 761] (by decide +kernel) (by decide +kernel)) (goodIn_sub (fun _ h => List.mem_append_left _ (List.mem_append_right _ h)) (by decide +kernel))) (goodIn_sub (fun _ h => List.mem_append_left _ (List.mem_append_left _ (List.mem_append_right _ h))) (by decide +kernel))
set_option maxRecDepth 20000 in
theorem gL_law_X4_digest : GoodIn wsL_law (wsV RL 163 RX4 yX4_digest wsX4_digest) := goodIn_app (goodIn_of _ (by decide +kernel)) ggL_law_X4_digest
set_option maxRecDepth 20000 in
theorem ggL_law_X5_digest : GoodIn wsL_law wsX5_digest := goodIn_r _ [708, 124, 709, 710, 61, 67, 65, 370, 66, 566, 567, 568, 5, 569, 133, 526, 527, 528, 529, 530, 531, 532, 570, 571, 572, 573, 522, 523, 524, 525, 574, 575, 576, 577, 518, 519, 520, 521, 325, 326, 327, 328, 301, 302, 303, 304, 305, 306, 307, 308, 309, 310, 311, 312, 313, 314, 315, 316, 317, 318, 319, 320, 321, 322, 323, 324, 329, 330, 331, 332, 333, 334, 335, 336, 228, 229, 230, 645, 646, 647, 648, 630, 631, 632, 633, 669, 670, 671, 672, 711, 654, 655, 656, 712, 679, 680, 681, 682, 713, 714, 715, 716, 717, 718, 719, 720, 721, 722, 723, 724, 730, 731, 732, 733, 734, 735, 736, 737, 738, 739, 740, 741, 742] (by decide +kernel) (by decide +kernel)
set_option maxRecDepth 20000 in
theorem gL_law_X5_digest : GoodIn wsL_law (wsV RL 167 RX5 yX5_digest wsX5_digest) := goodIn_app (goodIn_of _ (by decide +kernel)) ggL_law_X5_digest
