theorem dL_cell_0 : decode cL_cell 0 = .ok (.iload_n 1, 1) := by decide +kernel
theorem dL_cell_1 : decode cL_cell 1 = .ok (.aload_n 0, 1) := by decide +kernel
theorem dL_cell_2 : decode cL_cell 2 = .ok (.arraylength, 1) := by decide +kernel
theorem dL_cell_3 : decode cL_cell 3 = .ok (.if_icmp .ge 9, 3) := by decide +kernel
theorem dL_cell_6 : decode cL_cell 6 = .ok (.aload_n 0, 1) := by decide +kernel
theorem dL_cell_7 : decode cL_cell 7 = .ok (.iload_n 1, 1) := by decide +kernel
theorem dL_cell_8 : decode cL_cell 8 = .ok (.iaload, 1) := by decide +kernel
theorem dL_cell_9 : decode cL_cell 9 = .ok (.goto 15, 3) := by decide +kernel
theorem dL_cell_12 : decode cL_cell 12 = .ok (.ldc 7, 2) := by decide +kernel
theorem dL_cell_14 : decode cL_cell 14 = .ok (.iload_n 1, 1) := by decide +kernel
theorem dL_cell_15 : decode cL_cell 15 = .ok (.sipush 157, 3) := by decide +kernel
theorem dL_cell_18 : decode cL_cell 18 = .ok (.iadd, 1) := by decide +kernel
theorem dL_cell_19 : decode cL_cell 19 = .ok (.imul, 1) := by decide +kernel
theorem dL_cell_20 : decode cL_cell 20 = .ok (.sipush 32009, 3) := by decide +kernel
theorem dL_cell_23 : decode cL_cell 23 = .ok (.iadd, 1) := by decide +kernel
theorem dL_cell_24 : decode cL_cell 24 = .ok (.ldc 8, 2) := by decide +kernel
theorem dL_cell_26 : decode cL_cell 26 = .ok (.iand, 1) := by decide +kernel
theorem dL_cell_27 : decode cL_cell 27 = .ok (.ireturn, 1) := by decide +kernel
theorem dL_call_0 : decode cL_call 0 = .ok (.iload_n 1, 1) := by decide +kernel
theorem dL_call_1 : decode cL_call 1 = .ok (.ifCond .ne 12, 3) := by decide +kernel
theorem dL_call_4 : decode cL_call 4 = .ok (.aload_n 0, 1) := by decide +kernel
theorem dL_call_5 : decode cL_call 5 = .ok (.iload_n 2, 1) := by decide +kernel
theorem dL_call_6 : decode cL_call 6 = .ok (.iload_n 3, 1) := by decide +kernel
theorem dL_call_7 : decode cL_call 7 = .ok (.invokevirtual 9, 3) := by decide +kernel
theorem dL_call_10 : decode cL_call 10 = .ok (.goto 115, 3) := by decide +kernel
theorem dL_call_13 : decode cL_call 13 = .ok (.iload_n 1, 1) := by decide +kernel
theorem dL_call_14 : decode cL_call 14 = .ok (.iconst 1, 1) := by decide +kernel
theorem dL_call_15 : decode cL_call 15 = .ok (.if_icmp .ne 12, 3) := by decide +kernel
theorem dL_call_18 : decode cL_call 18 = .ok (.aload_n 0, 1) := by decide +kernel
theorem dL_call_19 : decode cL_call 19 = .ok (.iload_n 2, 1) := by decide +kernel
theorem dL_call_20 : decode cL_call 20 = .ok (.iload_n 3, 1) := by decide +kernel
theorem dL_call_21 : decode cL_call 21 = .ok (.invokevirtual 15, 3) := by decide +kernel
theorem dL_call_24 : decode cL_call 24 = .ok (.goto 101, 3) := by decide +kernel
theorem dL_call_27 : decode cL_call 27 = .ok (.iload_n 1, 1) := by decide +kernel
theorem dL_call_28 : decode cL_call 28 = .ok (.iconst 2, 1) := by decide +kernel
theorem dL_call_29 : decode cL_call 29 = .ok (.if_icmp .ne 12, 3) := by decide +kernel
theorem dL_call_32 : decode cL_call 32 = .ok (.aload_n 0, 1) := by decide +kernel
theorem dL_call_33 : decode cL_call 33 = .ok (.iload_n 2, 1) := by decide +kernel
theorem dL_call_34 : decode cL_call 34 = .ok (.iload_n 3, 1) := by decide +kernel
theorem dL_call_35 : decode cL_call 35 = .ok (.invokevirtual 18, 3) := by decide +kernel
theorem dL_call_38 : decode cL_call 38 = .ok (.goto 87, 3) := by decide +kernel
theorem dL_call_41 : decode cL_call 41 = .ok (.iload_n 1, 1) := by decide +kernel
theorem dL_call_42 : decode cL_call 42 = .ok (.iconst 3, 1) := by decide +kernel
theorem dL_call_43 : decode cL_call 43 = .ok (.if_icmp .ne 11, 3) := by decide +kernel
theorem dL_call_46 : decode cL_call 46 = .ok (.aload_n 0, 1) := by decide +kernel
theorem dL_call_47 : decode cL_call 47 = .ok (.iload_n 2, 1) := by decide +kernel
theorem dL_call_48 : decode cL_call 48 = .ok (.invokevirtual 21, 3) := by decide +kernel
theorem dL_call_51 : decode cL_call 51 = .ok (.goto 74, 3) := by decide +kernel
theorem dL_call_54 : decode cL_call 54 = .ok (.iload_n 1, 1) := by decide +kernel
theorem dL_call_55 : decode cL_call 55 = .ok (.iconst 4, 1) := by decide +kernel
theorem dL_call_56 : decode cL_call 56 = .ok (.if_icmp .ne 11, 3) := by decide +kernel
theorem dL_call_59 : decode cL_call 59 = .ok (.aload_n 0, 1) := by decide +kernel
theorem dL_call_60 : decode cL_call 60 = .ok (.iload_n 2, 1) := by decide +kernel
theorem dL_call_61 : decode cL_call 61 = .ok (.invokevirtual 25, 3) := by decide +kernel
theorem dL_call_64 : decode cL_call 64 = .ok (.goto 61, 3) := by decide +kernel
theorem dL_call_67 : decode cL_call 67 = .ok (.iload_n 1, 1) := by decide +kernel
theorem dL_call_68 : decode cL_call 68 = .ok (.iconst 5, 1) := by decide +kernel
theorem dL_call_69 : decode cL_call 69 = .ok (.if_icmp .ne 11, 3) := by decide +kernel
theorem dL_call_72 : decode cL_call 72 = .ok (.aload_n 0, 1) := by decide +kernel
theorem dL_call_73 : decode cL_call 73 = .ok (.iload_n 2, 1) := by decide +kernel
theorem dL_call_74 : decode cL_call 74 = .ok (.invokevirtual 28, 3) := by decide +kernel
theorem dL_call_77 : decode cL_call 77 = .ok (.goto 48, 3) := by decide +kernel
theorem dL_call_80 : decode cL_call 80 = .ok (.iload_n 1, 1) := by decide +kernel
theorem dL_call_81 : decode cL_call 81 = .ok (.bipush 6, 2) := by decide +kernel
theorem dL_call_83 : decode cL_call 83 = .ok (.if_icmp .ne 10, 3) := by decide +kernel
theorem dL_call_86 : decode cL_call 86 = .ok (.aload_n 0, 1) := by decide +kernel
theorem dL_call_87 : decode cL_call 87 = .ok (.invokevirtual 31, 3) := by decide +kernel
theorem dL_call_90 : decode cL_call 90 = .ok (.goto 35, 3) := by decide +kernel
theorem dL_call_93 : decode cL_call 93 = .ok (.iload_n 1, 1) := by decide +kernel
theorem dL_call_94 : decode cL_call 94 = .ok (.bipush 7, 2) := by decide +kernel
theorem dL_call_96 : decode cL_call 96 = .ok (.if_icmp .ne 11, 3) := by decide +kernel
theorem dL_call_99 : decode cL_call 99 = .ok (.aload_n 0, 1) := by decide +kernel
theorem dL_call_100 : decode cL_call 100 = .ok (.iload_n 2, 1) := by decide +kernel
theorem dL_call_101 : decode cL_call 101 = .ok (.invokevirtual 35, 3) := by decide +kernel
theorem dL_call_104 : decode cL_call 104 = .ok (.goto 21, 3) := by decide +kernel
theorem dL_call_107 : decode cL_call 107 = .ok (.iload_n 1, 1) := by decide +kernel
theorem dL_call_108 : decode cL_call 108 = .ok (.bipush 8, 2) := by decide +kernel
theorem dL_call_110 : decode cL_call 110 = .ok (.if_icmp .ne 11, 3) := by decide +kernel
theorem dL_call_113 : decode cL_call 113 = .ok (.aload_n 0, 1) := by decide +kernel
theorem dL_call_114 : decode cL_call 114 = .ok (.iload_n 2, 1) := by decide +kernel
theorem dL_call_115 : decode cL_call 115 = .ok (.invokevirtual 38, 3) := by decide +kernel
theorem dL_call_118 : decode cL_call 118 = .ok (.goto 7, 3) := by decide +kernel
theorem dL_call_121 : decode cL_call 121 = .ok (.aload_n 0, 1) := by decide +kernel
theorem dL_call_122 : decode cL_call 122 = .ok (.invokevirtual 41, 3) := by decide +kernel
theorem dL_call_125 : decode cL_call 125 = .ok (.ireturn, 1) := by decide +kernel
theorem dL_call_126 : decode cL_call 126 = .ok (.astore 4, 2) := by decide +kernel
theorem dL_call_128 : decode cL_call 128 = .ok (.bipush (-10), 2) := by decide +kernel
theorem dL_call_130 : decode cL_call 130 = .ok (.ireturn, 1) := by decide +kernel
theorem dL_call_131 : decode cL_call 131 = .ok (.astore 4, 2) := by decide +kernel
theorem dL_call_133 : decode cL_call 133 = .ok (.bipush (-11), 2) := by decide +kernel
theorem dL_call_135 : decode cL_call 135 = .ok (.ireturn, 1) := by decide +kernel
theorem dL_call_136 : decode cL_call 136 = .ok (.astore 4, 2) := by decide +kernel
theorem dL_call_138 : decode cL_call 138 = .ok (.bipush (-12), 2) := by decide +kernel
theorem dL_call_140 : decode cL_call 140 = .ok (.ireturn, 1) := by decide +kernel
theorem dL_ask_0 : decode cL_ask 0 = .ok (.iload_n 1, 1) := by decide +kernel
theorem dL_ask_1 : decode cL_ask 1 = .ok (.ifCond .ne 12, 3) := by decide +kernel
theorem dL_ask_4 : decode cL_ask 4 = .ok (.aload_n 0, 1) := by decide +kernel
theorem dL_ask_5 : decode cL_ask 5 = .ok (.iload_n 2, 1) := by decide +kernel
theorem dL_ask_6 : decode cL_ask 6 = .ok (.iload_n 3, 1) := by decide +kernel
theorem dL_ask_7 : decode cL_ask 7 = .ok (.invokevirtual 50, 3) := by decide +kernel
theorem dL_ask_10 : decode cL_ask 10 = .ok (.goto 88, 3) := by decide +kernel
theorem dL_ask_13 : decode cL_ask 13 = .ok (.iload_n 1, 1) := by decide +kernel
theorem dL_ask_14 : decode cL_ask 14 = .ok (.iconst 1, 1) := by decide +kernel
theorem dL_ask_15 : decode cL_ask 15 = .ok (.if_icmp .ne 11, 3) := by decide +kernel
theorem dL_ask_18 : decode cL_ask 18 = .ok (.aload_n 0, 1) := by decide +kernel
theorem dL_ask_19 : decode cL_ask 19 = .ok (.iload_n 2, 1) := by decide +kernel
theorem dL_ask_20 : decode cL_ask 20 = .ok (.invokevirtual 53, 3) := by decide +kernel
theorem dL_ask_23 : decode cL_ask 23 = .ok (.goto 75, 3) := by decide +kernel
theorem dL_ask_26 : decode cL_ask 26 = .ok (.iload_n 1, 1) := by decide +kernel
theorem dL_ask_27 : decode cL_ask 27 = .ok (.iconst 2, 1) := by decide +kernel
theorem dL_ask_28 : decode cL_ask 28 = .ok (.if_icmp .ne 11, 3) := by decide +kernel
theorem dL_ask_31 : decode cL_ask 31 = .ok (.aload_n 0, 1) := by decide +kernel
theorem dL_ask_32 : decode cL_ask 32 = .ok (.iload_n 2, 1) := by decide +kernel
theorem dL_ask_33 : decode cL_ask 33 = .ok (.invokevirtual 56, 3) := by decide +kernel
theorem dL_ask_36 : decode cL_ask 36 = .ok (.goto 62, 3) := by decide +kernel
theorem dL_ask_39 : decode cL_ask 39 = .ok (.iload_n 1, 1) := by decide +kernel
theorem dL_ask_40 : decode cL_ask 40 = .ok (.iconst 3, 1) := by decide +kernel
theorem dL_ask_41 : decode cL_ask 41 = .ok (.if_icmp .ne 11, 3) := by decide +kernel
theorem dL_ask_44 : decode cL_ask 44 = .ok (.aload_n 0, 1) := by decide +kernel
theorem dL_ask_45 : decode cL_ask 45 = .ok (.iload_n 2, 1) := by decide +kernel
theorem dL_ask_46 : decode cL_ask 46 = .ok (.invokevirtual 59, 3) := by decide +kernel
theorem dL_ask_49 : decode cL_ask 49 = .ok (.goto 49, 3) := by decide +kernel
theorem dL_ask_52 : decode cL_ask 52 = .ok (.iload_n 1, 1) := by decide +kernel
theorem dL_ask_53 : decode cL_ask 53 = .ok (.iconst 4, 1) := by decide +kernel
theorem dL_ask_54 : decode cL_ask 54 = .ok (.if_icmp .ne 12, 3) := by decide +kernel
theorem dL_ask_57 : decode cL_ask 57 = .ok (.aload_n 0, 1) := by decide +kernel
theorem dL_ask_58 : decode cL_ask 58 = .ok (.iload_n 2, 1) := by decide +kernel
theorem dL_ask_59 : decode cL_ask 59 = .ok (.iload_n 3, 1) := by decide +kernel
theorem dL_ask_60 : decode cL_ask 60 = .ok (.invokevirtual 62, 3) := by decide +kernel
theorem dL_ask_63 : decode cL_ask 63 = .ok (.goto 35, 3) := by decide +kernel
theorem dL_ask_66 : decode cL_ask 66 = .ok (.iload_n 1, 1) := by decide +kernel
theorem dL_ask_67 : decode cL_ask 67 = .ok (.iconst 5, 1) := by decide +kernel
theorem dL_ask_68 : decode cL_ask 68 = .ok (.if_icmp .ne 11, 3) := by decide +kernel
theorem dL_ask_71 : decode cL_ask 71 = .ok (.aload_n 0, 1) := by decide +kernel
theorem dL_ask_72 : decode cL_ask 72 = .ok (.iload_n 2, 1) := by decide +kernel
theorem dL_ask_73 : decode cL_ask 73 = .ok (.invokevirtual 65, 3) := by decide +kernel
theorem dL_ask_76 : decode cL_ask 76 = .ok (.goto 22, 3) := by decide +kernel
theorem dL_ask_79 : decode cL_ask 79 = .ok (.iload_n 1, 1) := by decide +kernel
theorem dL_ask_80 : decode cL_ask 80 = .ok (.bipush 6, 2) := by decide +kernel
theorem dL_ask_82 : decode cL_ask 82 = .ok (.if_icmp .ne 11, 3) := by decide +kernel
theorem dL_ask_85 : decode cL_ask 85 = .ok (.aload_n 0, 1) := by decide +kernel
theorem dL_ask_86 : decode cL_ask 86 = .ok (.iload_n 2, 1) := by decide +kernel
theorem dL_ask_87 : decode cL_ask 87 = .ok (.invokevirtual 68, 3) := by decide +kernel
theorem dL_ask_90 : decode cL_ask 90 = .ok (.goto 8, 3) := by decide +kernel
theorem dL_ask_93 : decode cL_ask 93 = .ok (.aload_n 0, 1) := by decide +kernel
theorem dL_ask_94 : decode cL_ask 94 = .ok (.iload_n 2, 1) := by decide +kernel
theorem dL_ask_95 : decode cL_ask 95 = .ok (.invokevirtual 71, 3) := by decide +kernel
theorem dL_ask_98 : decode cL_ask 98 = .ok (.ireturn, 1) := by decide +kernel
theorem dL_ask_99 : decode cL_ask 99 = .ok (.astore 4, 2) := by decide +kernel
theorem dL_ask_101 : decode cL_ask 101 = .ok (.bipush (-10), 2) := by decide +kernel
theorem dL_ask_103 : decode cL_ask 103 = .ok (.ireturn, 1) := by decide +kernel
theorem dL_ask_104 : decode cL_ask 104 = .ok (.astore 4, 2) := by decide +kernel
theorem dL_ask_106 : decode cL_ask 106 = .ok (.bipush (-11), 2) := by decide +kernel
theorem dL_ask_108 : decode cL_ask 108 = .ok (.ireturn, 1) := by decide +kernel
theorem dL_seen_0 : decode cL_seen 0 = .ok (.ldc2_w 74, 3) := by decide +kernel
theorem dL_seen_3 : decode cL_seen 3 = .ok (.lstore_n 1, 1) := by decide +kernel
theorem dL_seen_4 : decode cL_seen 4 = .ok (.iconst 0, 1) := by decide +kernel
theorem dL_seen_5 : decode cL_seen 5 = .ok (.istore_n 3, 1) := by decide +kernel
theorem dL_seen_6 : decode cL_seen 6 = .ok (.iload_n 3, 1) := by decide +kernel
theorem dL_seen_7 : decode cL_seen 7 = .ok (.bipush 10, 2) := by decide +kernel
theorem dL_seen_9 : decode cL_seen 9 = .ok (.if_icmp .ge 22, 3) := by decide +kernel
theorem dL_seen_12 : decode cL_seen 12 = .ok (.ldc2_w 76, 3) := by decide +kernel
theorem dL_seen_15 : decode cL_seen 15 = .ok (.lload_n 1, 1) := by decide +kernel
theorem dL_seen_16 : decode cL_seen 16 = .ok (.lmul, 1) := by decide +kernel
theorem dL_seen_17 : decode cL_seen 17 = .ok (.aload_n 0, 1) := by decide +kernel
theorem dL_seen_18 : decode cL_seen 18 = .ok (.iload_n 3, 1) := by decide +kernel
theorem dL_seen_19 : decode cL_seen 19 = .ok (.invokevirtual 56, 3) := by decide +kernel
theorem dL_seen_22 : decode cL_seen 22 = .ok (.i2l, 1) := by decide +kernel
theorem dL_seen_23 : decode cL_seen 23 = .ok (.ladd, 1) := by decide +kernel
theorem dL_seen_24 : decode cL_seen 24 = .ok (.lstore_n 1, 1) := by decide +kernel
theorem dL_seen_25 : decode cL_seen 25 = .ok (.iinc 3 1, 3) := by decide +kernel
theorem dL_seen_28 : decode cL_seen 28 = .ok (.goto (-22), 3) := by decide +kernel
theorem dL_seen_31 : decode cL_seen 31 = .ok (.iconst 0, 1) := by decide +kernel
theorem dL_seen_32 : decode cL_seen 32 = .ok (.istore_n 3, 1) := by decide +kernel
theorem dL_seen_33 : decode cL_seen 33 = .ok (.iload_n 3, 1) := by decide +kernel
theorem dL_seen_34 : decode cL_seen 34 = .ok (.bipush 64, 2) := by decide +kernel
theorem dL_seen_36 : decode cL_seen 36 = .ok (.if_icmp .ge 29, 3) := by decide +kernel
theorem dL_seen_39 : decode cL_seen 39 = .ok (.ldc2_w 76, 3) := by decide +kernel
theorem dL_seen_42 : decode cL_seen 42 = .ok (.lload_n 1, 1) := by decide +kernel
theorem dL_seen_43 : decode cL_seen 43 = .ok (.lmul, 1) := by decide +kernel
theorem dL_seen_44 : decode cL_seen 44 = .ok (.aload_n 0, 1) := by decide +kernel
theorem dL_seen_45 : decode cL_seen 45 = .ok (.iload_n 3, 1) := by decide +kernel
theorem dL_seen_46 : decode cL_seen 46 = .ok (.bipush 8, 2) := by decide +kernel
theorem dL_seen_48 : decode cL_seen 48 = .ok (.idiv, 1) := by decide +kernel
theorem dL_seen_49 : decode cL_seen 49 = .ok (.iload_n 3, 1) := by decide +kernel
theorem dL_seen_50 : decode cL_seen 50 = .ok (.bipush 8, 2) := by decide +kernel
theorem dL_seen_52 : decode cL_seen 52 = .ok (.irem, 1) := by decide +kernel
theorem dL_seen_53 : decode cL_seen 53 = .ok (.invokevirtual 50, 3) := by decide +kernel
theorem dL_seen_56 : decode cL_seen 56 = .ok (.i2l, 1) := by decide +kernel
theorem dL_seen_57 : decode cL_seen 57 = .ok (.ladd, 1) := by decide +kernel
theorem dL_seen_58 : decode cL_seen 58 = .ok (.lstore_n 1, 1) := by decide +kernel
theorem dL_seen_59 : decode cL_seen 59 = .ok (.iinc 3 1, 3) := by decide +kernel
theorem dL_seen_62 : decode cL_seen 62 = .ok (.goto (-29), 3) := by decide +kernel
theorem dL_seen_65 : decode cL_seen 65 = .ok (.iconst 0, 1) := by decide +kernel
theorem dL_seen_66 : decode cL_seen 66 = .ok (.istore_n 3, 1) := by decide +kernel
theorem dL_seen_67 : decode cL_seen 67 = .ok (.iload_n 3, 1) := by decide +kernel
theorem dL_seen_68 : decode cL_seen 68 = .ok (.aload_n 0, 1) := by decide +kernel
theorem dL_seen_69 : decode cL_seen 69 = .ok (.iconst 0, 1) := by decide +kernel
theorem dL_seen_70 : decode cL_seen 70 = .ok (.invokevirtual 56, 3) := by decide +kernel
theorem dL_seen_73 : decode cL_seen 73 = .ok (.if_icmp .ge 22, 3) := by decide +kernel
theorem dL_seen_76 : decode cL_seen 76 = .ok (.ldc2_w 76, 3) := by decide +kernel
theorem dL_seen_79 : decode cL_seen 79 = .ok (.lload_n 1, 1) := by decide +kernel
theorem dL_seen_80 : decode cL_seen 80 = .ok (.lmul, 1) := by decide +kernel
theorem dL_seen_81 : decode cL_seen 81 = .ok (.aload_n 0, 1) := by decide +kernel
theorem dL_seen_82 : decode cL_seen 82 = .ok (.iload_n 3, 1) := by decide +kernel
theorem dL_seen_83 : decode cL_seen 83 = .ok (.invokevirtual 53, 3) := by decide +kernel
theorem dL_seen_86 : decode cL_seen 86 = .ok (.i2l, 1) := by decide +kernel
theorem dL_seen_87 : decode cL_seen 87 = .ok (.ladd, 1) := by decide +kernel
theorem dL_seen_88 : decode cL_seen 88 = .ok (.lstore_n 1, 1) := by decide +kernel
theorem dL_seen_89 : decode cL_seen 89 = .ok (.iinc 3 1, 3) := by decide +kernel
theorem dL_seen_92 : decode cL_seen 92 = .ok (.goto (-25), 3) := by decide +kernel
theorem dL_seen_95 : decode cL_seen 95 = .ok (.ldc2_w 76, 3) := by decide +kernel
theorem dL_seen_98 : decode cL_seen 98 = .ok (.ldc2_w 76, 3) := by decide +kernel
theorem dL_seen_101 : decode cL_seen 101 = .ok (.ldc2_w 76, 3) := by decide +kernel
theorem dL_seen_104 : decode cL_seen 104 = .ok (.lload_n 1, 1) := by decide +kernel
theorem dL_seen_105 : decode cL_seen 105 = .ok (.lmul, 1) := by decide +kernel
theorem dL_seen_106 : decode cL_seen 106 = .ok (.aload_n 0, 1) := by decide +kernel
theorem dL_seen_107 : decode cL_seen 107 = .ok (.iconst 0, 1) := by decide +kernel
theorem dL_seen_108 : decode cL_seen 108 = .ok (.invokevirtual 59, 3) := by decide +kernel
theorem dL_seen_111 : decode cL_seen 111 = .ok (.i2l, 1) := by decide +kernel
theorem dL_seen_112 : decode cL_seen 112 = .ok (.ladd, 1) := by decide +kernel
theorem dL_seen_113 : decode cL_seen 113 = .ok (.lmul, 1) := by decide +kernel
theorem dL_seen_114 : decode cL_seen 114 = .ok (.aload_n 0, 1) := by decide +kernel
theorem dL_seen_115 : decode cL_seen 115 = .ok (.iconst 1, 1) := by decide +kernel
theorem dL_seen_116 : decode cL_seen 116 = .ok (.invokevirtual 59, 3) := by decide +kernel
theorem dL_seen_119 : decode cL_seen 119 = .ok (.i2l, 1) := by decide +kernel
theorem dL_seen_120 : decode cL_seen 120 = .ok (.ladd, 1) := by decide +kernel
theorem dL_seen_121 : decode cL_seen 121 = .ok (.lmul, 1) := by decide +kernel
theorem dL_seen_122 : decode cL_seen 122 = .ok (.aload_n 0, 1) := by decide +kernel
theorem dL_seen_123 : decode cL_seen 123 = .ok (.iconst 2, 1) := by decide +kernel
theorem dL_seen_124 : decode cL_seen 124 = .ok (.invokevirtual 59, 3) := by decide +kernel
theorem dL_seen_127 : decode cL_seen 127 = .ok (.i2l, 1) := by decide +kernel
theorem dL_seen_128 : decode cL_seen 128 = .ok (.ladd, 1) := by decide +kernel
theorem dL_seen_129 : decode cL_seen 129 = .ok (.lreturn, 1) := by decide +kernel
theorem dL_isWhole_0 : decode cL_isWhole 0 = .ok (.iconst 0, 1) := by decide +kernel
theorem dL_isWhole_1 : decode cL_isWhole 1 = .ok (.istore_n 1, 1) := by decide +kernel
theorem dL_isWhole_2 : decode cL_isWhole 2 = .ok (.iconst 0, 1) := by decide +kernel
theorem dL_isWhole_3 : decode cL_isWhole 3 = .ok (.istore_n 2, 1) := by decide +kernel
theorem dL_isWhole_4 : decode cL_isWhole 4 = .ok (.iconst 0, 1) := by decide +kernel
theorem dL_isWhole_5 : decode cL_isWhole 5 = .ok (.istore_n 3, 1) := by decide +kernel
theorem dL_isWhole_6 : decode cL_isWhole 6 = .ok (.iconst 1, 1) := by decide +kernel
theorem dL_isWhole_7 : decode cL_isWhole 7 = .ok (.istore 4, 2) := by decide +kernel
theorem dL_isWhole_9 : decode cL_isWhole 9 = .ok (.iconst 0, 1) := by decide +kernel
theorem dL_isWhole_10 : decode cL_isWhole 10 = .ok (.istore 5, 2) := by decide +kernel
theorem dL_isWhole_12 : decode cL_isWhole 12 = .ok (.iload 5, 2) := by decide +kernel
theorem dL_isWhole_14 : decode cL_isWhole 14 = .ok (.bipush 8, 2) := by decide +kernel
theorem dL_isWhole_16 : decode cL_isWhole 16 = .ok (.if_icmp .ge 245, 3) := by decide +kernel
theorem dL_isWhole_19 : decode cL_isWhole 19 = .ok (.iload 4, 2) := by decide +kernel
theorem dL_isWhole_21 : decode cL_isWhole 21 = .ok (.ifCond .eq 240, 3) := by decide +kernel
theorem dL_isWhole_24 : decode cL_isWhole 24 = .ok (.aload_n 0, 1) := by decide +kernel
theorem dL_isWhole_25 : decode cL_isWhole 25 = .ok (.iload 5, 2) := by decide +kernel
theorem dL_isWhole_27 : decode cL_isWhole 27 = .ok (.iconst 3, 1) := by decide +kernel
theorem dL_isWhole_28 : decode cL_isWhole 28 = .ok (.invokevirtual 50, 3) := by decide +kernel
theorem dL_isWhole_31 : decode cL_isWhole 31 = .ok (.istore 6, 2) := by decide +kernel
theorem dL_isWhole_33 : decode cL_isWhole 33 = .ok (.iload_n 1, 1) := by decide +kernel
theorem dL_isWhole_34 : decode cL_isWhole 34 = .ok (.iload 6, 2) := by decide +kernel
theorem dL_isWhole_36 : decode cL_isWhole 36 = .ok (.sipush 256, 3) := by decide +kernel
theorem dL_isWhole_39 : decode cL_isWhole 39 = .ok (.idiv, 1) := by decide +kernel
theorem dL_isWhole_40 : decode cL_isWhole 40 = .ok (.iload 6, 2) := by decide +kernel
theorem dL_isWhole_42 : decode cL_isWhole 42 = .ok (.bipush 16, 2) := by decide +kernel
theorem dL_isWhole_44 : decode cL_isWhole 44 = .ok (.idiv, 1) := by decide +kernel
theorem dL_isWhole_45 : decode cL_isWhole 45 = .ok (.bipush 16, 2) := by decide +kernel
theorem dL_isWhole_47 : decode cL_isWhole 47 = .ok (.irem, 1) := by decide +kernel
theorem dL_isWhole_48 : decode cL_isWhole 48 = .ok (.iadd, 1) := by decide +kernel
theorem dL_isWhole_49 : decode cL_isWhole 49 = .ok (.iload 6, 2) := by decide +kernel
theorem dL_isWhole_51 : decode cL_isWhole 51 = .ok (.bipush 16, 2) := by decide +kernel
theorem dL_isWhole_53 : decode cL_isWhole 53 = .ok (.irem, 1) := by decide +kernel
theorem dL_isWhole_54 : decode cL_isWhole 54 = .ok (.iadd, 1) := by decide +kernel
theorem dL_isWhole_55 : decode cL_isWhole 55 = .ok (.iadd, 1) := by decide +kernel
theorem dL_isWhole_56 : decode cL_isWhole 56 = .ok (.istore_n 1, 1) := by decide +kernel
theorem dL_isWhole_57 : decode cL_isWhole 57 = .ok (.iload_n 3, 1) := by decide +kernel
theorem dL_isWhole_58 : decode cL_isWhole 58 = .ok (.iload 6, 2) := by decide +kernel
theorem dL_isWhole_60 : decode cL_isWhole 60 = .ok (.ifCond .le 7, 3) := by decide +kernel
theorem dL_isWhole_63 : decode cL_isWhole 63 = .ok (.iconst 1, 1) := by decide +kernel
theorem dL_isWhole_64 : decode cL_isWhole 64 = .ok (.goto 4, 3) := by decide +kernel
theorem dL_isWhole_67 : decode cL_isWhole 67 = .ok (.iconst 0, 1) := by decide +kernel
theorem dL_isWhole_68 : decode cL_isWhole 68 = .ok (.iadd, 1) := by decide +kernel
theorem dL_isWhole_69 : decode cL_isWhole 69 = .ok (.istore_n 3, 1) := by decide +kernel
theorem dL_isWhole_70 : decode cL_isWhole 70 = .ok (.iconst 0, 1) := by decide +kernel
theorem dL_isWhole_71 : decode cL_isWhole 71 = .ok (.istore 7, 2) := by decide +kernel
theorem dL_isWhole_73 : decode cL_isWhole 73 = .ok (.iload 7, 2) := by decide +kernel
theorem dL_isWhole_75 : decode cL_isWhole 75 = .ok (.iconst 3, 1) := by decide +kernel
theorem dL_isWhole_76 : decode cL_isWhole 76 = .ok (.if_icmp .ge 73, 3) := by decide +kernel
theorem dL_isWhole_79 : decode cL_isWhole 79 = .ok (.iload_n 2, 1) := by decide +kernel
theorem dL_isWhole_80 : decode cL_isWhole 80 = .ok (.aload_n 0, 1) := by decide +kernel
theorem dL_isWhole_81 : decode cL_isWhole 81 = .ok (.iload 5, 2) := by decide +kernel
theorem dL_isWhole_83 : decode cL_isWhole 83 = .ok (.iconst 4, 1) := by decide +kernel
theorem dL_isWhole_84 : decode cL_isWhole 84 = .ok (.iload 7, 2) := by decide +kernel
theorem dL_isWhole_86 : decode cL_isWhole 86 = .ok (.iadd, 1) := by decide +kernel
theorem dL_isWhole_87 : decode cL_isWhole 87 = .ok (.invokevirtual 50, 3) := by decide +kernel
theorem dL_isWhole_90 : decode cL_isWhole 90 = .ok (.iadd, 1) := by decide +kernel
theorem dL_isWhole_91 : decode cL_isWhole 91 = .ok (.istore_n 2, 1) := by decide +kernel
theorem dL_isWhole_92 : decode cL_isWhole 92 = .ok (.iload 4, 2) := by decide +kernel
theorem dL_isWhole_94 : decode cL_isWhole 94 = .ok (.ifCond .eq 46, 3) := by decide +kernel
theorem dL_isWhole_97 : decode cL_isWhole 97 = .ok (.aload_n 0, 1) := by decide +kernel
theorem dL_isWhole_98 : decode cL_isWhole 98 = .ok (.iload 5, 2) := by decide +kernel
theorem dL_isWhole_100 : decode cL_isWhole 100 = .ok (.iconst 4, 1) := by decide +kernel
theorem dL_isWhole_101 : decode cL_isWhole 101 = .ok (.iload 7, 2) := by decide +kernel
theorem dL_isWhole_103 : decode cL_isWhole 103 = .ok (.iadd, 1) := by decide +kernel
theorem dL_isWhole_104 : decode cL_isWhole 104 = .ok (.invokevirtual 50, 3) := by decide +kernel
theorem dL_isWhole_107 : decode cL_isWhole 107 = .ok (.ifCond .lt 33, 3) := by decide +kernel
theorem dL_isWhole_110 : decode cL_isWhole 110 = .ok (.aload_n 0, 1) := by decide +kernel
theorem dL_isWhole_111 : decode cL_isWhole 111 = .ok (.iload 5, 2) := by decide +kernel
theorem dL_isWhole_113 : decode cL_isWhole 113 = .ok (.iconst 4, 1) := by decide +kernel
theorem dL_isWhole_114 : decode cL_isWhole 114 = .ok (.iload 7, 2) := by decide +kernel
theorem dL_isWhole_116 : decode cL_isWhole 116 = .ok (.iadd, 1) := by decide +kernel
theorem dL_isWhole_117 : decode cL_isWhole 117 = .ok (.invokevirtual 50, 3) := by decide +kernel
theorem dL_isWhole_120 : decode cL_isWhole 120 = .ok (.iload 6, 2) := by decide +kernel
theorem dL_isWhole_122 : decode cL_isWhole 122 = .ok (.bipush 8, 2) := by decide +kernel
theorem dL_isWhole_124 : decode cL_isWhole 124 = .ok (.iconst 4, 1) := by decide +kernel
theorem dL_isWhole_125 : decode cL_isWhole 125 = .ok (.iload 7, 2) := by decide +kernel
theorem dL_isWhole_127 : decode cL_isWhole 127 = .ok (.imul, 1) := by decide +kernel
theorem dL_isWhole_128 : decode cL_isWhole 128 = .ok (.isub, 1) := by decide +kernel
theorem dL_isWhole_129 : decode cL_isWhole 129 = .ok (.ishr, 1) := by decide +kernel
theorem dL_isWhole_130 : decode cL_isWhole 130 = .ok (.bipush 15, 2) := by decide +kernel
theorem dL_isWhole_132 : decode cL_isWhole 132 = .ok (.iand, 1) := by decide +kernel
theorem dL_isWhole_133 : decode cL_isWhole 133 = .ok (.if_icmp .gt 7, 3) := by decide +kernel
theorem dL_isWhole_136 : decode cL_isWhole 136 = .ok (.iconst 1, 1) := by decide +kernel
theorem dL_isWhole_137 : decode cL_isWhole 137 = .ok (.goto 4, 3) := by decide +kernel
theorem dL_isWhole_140 : decode cL_isWhole 140 = .ok (.iconst 0, 1) := by decide +kernel
theorem dL_isWhole_141 : decode cL_isWhole 141 = .ok (.istore 4, 2) := by decide +kernel
theorem dL_isWhole_143 : decode cL_isWhole 143 = .ok (.iinc 7 1, 3) := by decide +kernel
theorem dL_isWhole_146 : decode cL_isWhole 146 = .ok (.goto (-73), 3) := by decide +kernel
theorem dL_isWhole_149 : decode cL_isWhole 149 = .ok (.iload 4, 2) := by decide +kernel
theorem dL_isWhole_151 : decode cL_isWhole 151 = .ok (.ifCond .eq 101, 3) := by decide +kernel
theorem dL_isWhole_154 : decode cL_isWhole 154 = .ok (.iload 6, 2) := by decide +kernel
theorem dL_isWhole_156 : decode cL_isWhole 156 = .ok (.ifCond .lt 96, 3) := by decide +kernel
theorem dL_isWhole_159 : decode cL_isWhole 159 = .ok (.iload 6, 2) := by decide +kernel
theorem dL_isWhole_161 : decode cL_isWhole 161 = .ok (.sipush 4096, 3) := by decide +kernel
theorem dL_isWhole_164 : decode cL_isWhole 164 = .ok (.if_icmp .ge 88, 3) := by decide +kernel
theorem dL_isWhole_167 : decode cL_isWhole 167 = .ok (.aload_n 0, 1) := by decide +kernel
theorem dL_isWhole_168 : decode cL_isWhole 168 = .ok (.iload 5, 2) := by decide +kernel
theorem dL_isWhole_170 : decode cL_isWhole 170 = .ok (.iconst 2, 1) := by decide +kernel
theorem dL_isWhole_171 : decode cL_isWhole 171 = .ok (.invokevirtual 50, 3) := by decide +kernel
theorem dL_isWhole_174 : decode cL_isWhole 174 = .ok (.ifCond .lt 78, 3) := by decide +kernel
theorem dL_isWhole_177 : decode cL_isWhole 177 = .ok (.aload_n 0, 1) := by decide +kernel
theorem dL_isWhole_178 : decode cL_isWhole 178 = .ok (.iload 5, 2) := by decide +kernel
theorem dL_isWhole_180 : decode cL_isWhole 180 = .ok (.iconst 2, 1) := by decide +kernel
theorem dL_isWhole_181 : decode cL_isWhole 181 = .ok (.invokevirtual 50, 3) := by decide +kernel
theorem dL_isWhole_184 : decode cL_isWhole 184 = .ok (.sipush 4096, 3) := by decide +kernel
theorem dL_isWhole_187 : decode cL_isWhole 187 = .ok (.if_icmp .ge 65, 3) := by decide +kernel
theorem dL_isWhole_190 : decode cL_isWhole 190 = .ok (.iload 5, 2) := by decide +kernel
theorem dL_isWhole_192 : decode cL_isWhole 192 = .ok (.ifCond .eq 24, 3) := by decide +kernel
theorem dL_isWhole_195 : decode cL_isWhole 195 = .ok (.aload_n 0, 1) := by decide +kernel
theorem dL_isWhole_196 : decode cL_isWhole 196 = .ok (.iload 5, 2) := by decide +kernel
theorem dL_isWhole_198 : decode cL_isWhole 198 = .ok (.bipush 7, 2) := by decide +kernel
theorem dL_isWhole_200 : decode cL_isWhole 200 = .ok (.invokevirtual 50, 3) := by decide +kernel
theorem dL_isWhole_203 : decode cL_isWhole 203 = .ok (.aload_n 0, 1) := by decide +kernel
theorem dL_isWhole_204 : decode cL_isWhole 204 = .ok (.iload 5, 2) := by decide +kernel
theorem dL_isWhole_206 : decode cL_isWhole 206 = .ok (.iconst 1, 1) := by decide +kernel
theorem dL_isWhole_207 : decode cL_isWhole 207 = .ok (.isub, 1) := by decide +kernel
theorem dL_isWhole_208 : decode cL_isWhole 208 = .ok (.bipush 7, 2) := by decide +kernel
theorem dL_isWhole_210 : decode cL_isWhole 210 = .ok (.invokevirtual 50, 3) := by decide +kernel
theorem dL_isWhole_213 : decode cL_isWhole 213 = .ok (.if_icmp .gt 39, 3) := by decide +kernel
theorem dL_isWhole_216 : decode cL_isWhole 216 = .ok (.aload_n 0, 1) := by decide +kernel
theorem dL_isWhole_217 : decode cL_isWhole 217 = .ok (.iload 5, 2) := by decide +kernel
theorem dL_isWhole_219 : decode cL_isWhole 219 = .ok (.invokevirtual 71, 3) := by decide +kernel
theorem dL_isWhole_222 : decode cL_isWhole 222 = .ok (.iconst (-1), 1) := by decide +kernel
theorem dL_isWhole_223 : decode cL_isWhole 223 = .ok (.if_icmp .eq 25, 3) := by decide +kernel
theorem dL_isWhole_226 : decode cL_isWhole 226 = .ok (.aload_n 0, 1) := by decide +kernel
theorem dL_isWhole_227 : decode cL_isWhole 227 = .ok (.iload 5, 2) := by decide +kernel
theorem dL_isWhole_229 : decode cL_isWhole 229 = .ok (.invokevirtual 71, 3) := by decide +kernel
theorem dL_isWhole_232 : decode cL_isWhole 232 = .ok (.ifCond .le 20, 3) := by decide +kernel
theorem dL_isWhole_235 : decode cL_isWhole 235 = .ok (.aload_n 0, 1) := by decide +kernel
theorem dL_isWhole_236 : decode cL_isWhole 236 = .ok (.iload 5, 2) := by decide +kernel
theorem dL_isWhole_238 : decode cL_isWhole 238 = .ok (.invokevirtual 71, 3) := by decide +kernel
theorem dL_isWhole_241 : decode cL_isWhole 241 = .ok (.iload 5, 2) := by decide +kernel
theorem dL_isWhole_243 : decode cL_isWhole 243 = .ok (.iconst 1, 1) := by decide +kernel
theorem dL_isWhole_244 : decode cL_isWhole 244 = .ok (.iadd, 1) := by decide +kernel
theorem dL_isWhole_245 : decode cL_isWhole 245 = .ok (.if_icmp .gt 7, 3) := by decide +kernel
theorem dL_isWhole_248 : decode cL_isWhole 248 = .ok (.iconst 1, 1) := by decide +kernel
theorem dL_isWhole_249 : decode cL_isWhole 249 = .ok (.goto 4, 3) := by decide +kernel
theorem dL_isWhole_252 : decode cL_isWhole 252 = .ok (.iconst 0, 1) := by decide +kernel
theorem dL_isWhole_253 : decode cL_isWhole 253 = .ok (.istore 4, 2) := by decide +kernel
theorem dL_isWhole_255 : decode cL_isWhole 255 = .ok (.iinc 5 1, 3) := by decide +kernel
theorem dL_isWhole_258 : decode cL_isWhole 258 = .ok (.goto (-246), 3) := by decide +kernel
theorem dL_isWhole_261 : decode cL_isWhole 261 = .ok (.iload 4, 2) := by decide +kernel
theorem dL_isWhole_263 : decode cL_isWhole 263 = .ok (.ifCond .eq 133, 3) := by decide +kernel
theorem dL_isWhole_266 : decode cL_isWhole 266 = .ok (.aload_n 0, 1) := by decide +kernel
theorem dL_isWhole_267 : decode cL_isWhole 267 = .ok (.bipush 6, 2) := by decide +kernel
theorem dL_isWhole_269 : decode cL_isWhole 269 = .ok (.invokevirtual 56, 3) := by decide +kernel
theorem dL_isWhole_272 : decode cL_isWhole 272 = .ok (.iload_n 1, 1) := by decide +kernel
theorem dL_isWhole_273 : decode cL_isWhole 273 = .ok (.if_icmp .ne 123, 3) := by decide +kernel
theorem dL_isWhole_276 : decode cL_isWhole 276 = .ok (.aload_n 0, 1) := by decide +kernel
theorem dL_isWhole_277 : decode cL_isWhole 277 = .ok (.bipush 7, 2) := by decide +kernel
theorem dL_isWhole_279 : decode cL_isWhole 279 = .ok (.invokevirtual 56, 3) := by decide +kernel
theorem dL_isWhole_282 : decode cL_isWhole 282 = .ok (.iload_n 2, 1) := by decide +kernel
theorem dL_isWhole_283 : decode cL_isWhole 283 = .ok (.if_icmp .ne 113, 3) := by decide +kernel
theorem dL_isWhole_286 : decode cL_isWhole 286 = .ok (.aload_n 0, 1) := by decide +kernel
theorem dL_isWhole_287 : decode cL_isWhole 287 = .ok (.bipush 8, 2) := by decide +kernel
theorem dL_isWhole_289 : decode cL_isWhole 289 = .ok (.invokevirtual 56, 3) := by decide +kernel
theorem dL_isWhole_292 : decode cL_isWhole 292 = .ok (.iload_n 3, 1) := by decide +kernel
theorem dL_isWhole_293 : decode cL_isWhole 293 = .ok (.if_icmp .ne 103, 3) := by decide +kernel
theorem dL_isWhole_296 : decode cL_isWhole 296 = .ok (.iload_n 2, 1) := by decide +kernel
theorem dL_isWhole_297 : decode cL_isWhole 297 = .ok (.aload_n 0, 1) := by decide +kernel
theorem dL_isWhole_298 : decode cL_isWhole 298 = .ok (.iconst 2, 1) := by decide +kernel
theorem dL_isWhole_299 : decode cL_isWhole 299 = .ok (.invokevirtual 59, 3) := by decide +kernel
theorem dL_isWhole_302 : decode cL_isWhole 302 = .ok (.iload_n 1, 1) := by decide +kernel
theorem dL_isWhole_303 : decode cL_isWhole 303 = .ok (.aload_n 0, 1) := by decide +kernel
theorem dL_isWhole_304 : decode cL_isWhole 304 = .ok (.iconst 2, 1) := by decide +kernel
theorem dL_isWhole_305 : decode cL_isWhole 305 = .ok (.invokevirtual 59, 3) := by decide +kernel
theorem dL_isWhole_308 : decode cL_isWhole 308 = .ok (.if_icmp .le 7, 3) := by decide +kernel
theorem dL_isWhole_311 : decode cL_isWhole 311 = .ok (.iconst 0, 1) := by decide +kernel
theorem dL_isWhole_312 : decode cL_isWhole 312 = .ok (.goto 6, 3) := by decide +kernel
theorem dL_isWhole_315 : decode cL_isWhole 315 = .ok (.sipush 360, 3) := by decide +kernel
theorem dL_isWhole_318 : decode cL_isWhole 318 = .ok (.iadd, 1) := by decide +kernel
theorem dL_isWhole_319 : decode cL_isWhole 319 = .ok (.if_icmp .gt 77, 3) := by decide +kernel
theorem dL_isWhole_322 : decode cL_isWhole 322 = .ok (.aload_n 0, 1) := by decide +kernel
theorem dL_isWhole_323 : decode cL_isWhole 323 = .ok (.iconst 2, 1) := by decide +kernel
theorem dL_isWhole_324 : decode cL_isWhole 324 = .ok (.invokevirtual 56, 3) := by decide +kernel
theorem dL_isWhole_327 : decode cL_isWhole 327 = .ok (.aload_n 0, 1) := by decide +kernel
theorem dL_isWhole_328 : decode cL_isWhole 328 = .ok (.iconst 0, 1) := by decide +kernel
theorem dL_isWhole_329 : decode cL_isWhole 329 = .ok (.invokevirtual 56, 3) := by decide +kernel
theorem dL_isWhole_332 : decode cL_isWhole 332 = .ok (.aload_n 0, 1) := by decide +kernel
theorem dL_isWhole_333 : decode cL_isWhole 333 = .ok (.iconst 3, 1) := by decide +kernel
theorem dL_isWhole_334 : decode cL_isWhole 334 = .ok (.invokevirtual 56, 3) := by decide +kernel
theorem dL_isWhole_337 : decode cL_isWhole 337 = .ok (.iadd, 1) := by decide +kernel
theorem dL_isWhole_338 : decode cL_isWhole 338 = .ok (.aload_n 0, 1) := by decide +kernel
theorem dL_isWhole_339 : decode cL_isWhole 339 = .ok (.iconst 4, 1) := by decide +kernel
theorem dL_isWhole_340 : decode cL_isWhole 340 = .ok (.invokevirtual 56, 3) := by decide +kernel
theorem dL_isWhole_343 : decode cL_isWhole 343 = .ok (.iadd, 1) := by decide +kernel
theorem dL_isWhole_344 : decode cL_isWhole 344 = .ok (.aload_n 0, 1) := by decide +kernel
theorem dL_isWhole_345 : decode cL_isWhole 345 = .ok (.iconst 5, 1) := by decide +kernel
theorem dL_isWhole_346 : decode cL_isWhole 346 = .ok (.invokevirtual 56, 3) := by decide +kernel
theorem dL_isWhole_349 : decode cL_isWhole 349 = .ok (.iadd, 1) := by decide +kernel
theorem dL_isWhole_350 : decode cL_isWhole 350 = .ok (.if_icmp .ne 46, 3) := by decide +kernel
theorem dL_isWhole_353 : decode cL_isWhole 353 = .ok (.aload_n 0, 1) := by decide +kernel
theorem dL_isWhole_354 : decode cL_isWhole 354 = .ok (.iconst 3, 1) := by decide +kernel
theorem dL_isWhole_355 : decode cL_isWhole 355 = .ok (.invokevirtual 56, 3) := by decide +kernel
theorem dL_isWhole_358 : decode cL_isWhole 358 = .ok (.bipush 12, 2) := by decide +kernel
theorem dL_isWhole_360 : decode cL_isWhole 360 = .ok (.irem, 1) := by decide +kernel
theorem dL_isWhole_361 : decode cL_isWhole 361 = .ok (.ifCond .ne 35, 3) := by decide +kernel
theorem dL_isWhole_364 : decode cL_isWhole 364 = .ok (.aload_n 0, 1) := by decide +kernel
