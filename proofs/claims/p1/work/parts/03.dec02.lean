theorem dX5_refuseOaths_8 : decode cX5_refuseOaths 8 = .ok (.ifCond .eq 5, 3) := by decide +kernel
theorem dX5_refuseOaths_11 : decode cX5_refuseOaths 11 = .ok (.iload_n 2, 1) := by decide +kernel
theorem dX5_refuseOaths_12 : decode cX5_refuseOaths 12 = .ok (.ireturn, 1) := by decide +kernel
theorem dX5_refuseWorn_0 : decode cX5_refuseWorn 0 = .ok (.aload_n 0, 1) := by decide +kernel
theorem dX5_refuseWorn_1 : decode cX5_refuseWorn 1 = .ok (.iload_n 1, 1) := by decide +kernel
theorem dX5_refuseWorn_2 : decode cX5_refuseWorn 2 = .ok (.iconst 3, 1) := by decide +kernel
theorem dX5_refuseWorn_3 : decode cX5_refuseWorn 3 = .ok (.invokevirtual 355, 3) := by decide +kernel
theorem dX5_refuseWorn_6 : decode cX5_refuseWorn 6 = .ok (.istore_n 2, 1) := by decide +kernel
theorem dX5_refuseWorn_7 : decode cX5_refuseWorn 7 = .ok (.iload_n 2, 1) := by decide +kernel
theorem dX5_refuseWorn_8 : decode cX5_refuseWorn 8 = .ok (.ifCond .eq 5, 3) := by decide +kernel
theorem dX5_refuseWorn_11 : decode cX5_refuseWorn 11 = .ok (.iload_n 2, 1) := by decide +kernel
theorem dX5_refuseWorn_12 : decode cX5_refuseWorn 12 = .ok (.ireturn, 1) := by decide +kernel
theorem dX6_init_0 : decode cX6_init 0 = .ok (.aload_n 0, 1) := by decide +kernel
theorem dX6_init_1 : decode cX6_init 1 = .ok (.invokespecial 1, 3) := by decide +kernel
theorem dX6_init_4 : decode cX6_init 4 = .ok (.aload_n 0, 1) := by decide +kernel
theorem dX6_init_5 : decode cX6_init 5 = .ok (.iconst 4, 1) := by decide +kernel
theorem dX6_init_6 : decode cX6_init 6 = .ok (.newarray .int, 2) := by decide +kernel
theorem dX6_init_8 : decode cX6_init 8 = .ok (.putfield 7, 3) := by decide +kernel
theorem dX6_init_11 : decode cX6_init 11 = .ok (.aload_n 0, 1) := by decide +kernel
theorem dX6_init_12 : decode cX6_init 12 = .ok (.iconst 4, 1) := by decide +kernel
theorem dX6_init_13 : decode cX6_init 13 = .ok (.newarray .int, 2) := by decide +kernel
theorem dX6_init_15 : decode cX6_init 15 = .ok (.putfield 13, 3) := by decide +kernel
theorem dX6_init_18 : decode cX6_init 18 = .ok (.aload_n 0, 1) := by decide +kernel
theorem dX6_init_19 : decode cX6_init 19 = .ok (.sipush 240, 3) := by decide +kernel
theorem dX6_init_22 : decode cX6_init 22 = .ok (.newarray .long, 2) := by decide +kernel
theorem dX6_init_24 : decode cX6_init 24 = .ok (.putfield 16, 3) := by decide +kernel
theorem dX6_init_27 : decode cX6_init 27 = .ok (.aload_n 0, 1) := by decide +kernel
theorem dX6_init_28 : decode cX6_init 28 = .ok (.bipush 60, 2) := by decide +kernel
theorem dX6_init_30 : decode cX6_init 30 = .ok (.newarray .long, 2) := by decide +kernel
theorem dX6_init_32 : decode cX6_init 32 = .ok (.putfield 20, 3) := by decide +kernel
theorem dX6_init_35 : decode cX6_init 35 = .ok (.aload_n 0, 1) := by decide +kernel
theorem dX6_init_36 : decode cX6_init 36 = .ok (.sipush 1200, 3) := by decide +kernel
theorem dX6_init_39 : decode cX6_init 39 = .ok (.newarray .byte, 2) := by decide +kernel
theorem dX6_init_41 : decode cX6_init 41 = .ok (.putfield 23, 3) := by decide +kernel
theorem dX6_init_44 : decode cX6_init 44 = .ok (.aload_n 0, 1) := by decide +kernel
theorem dX6_init_45 : decode cX6_init 45 = .ok (.iconst (-1), 1) := by decide +kernel
theorem dX6_init_46 : decode cX6_init 46 = .ok (.putfield 27, 3) := by decide +kernel
theorem dX6_init_49 : decode cX6_init 49 = .ok (.aload_n 0, 1) := by decide +kernel
theorem dX6_init_50 : decode cX6_init 50 = .ok (.iconst 5, 1) := by decide +kernel
theorem dX6_init_51 : decode cX6_init 51 = .ok (.newarray .int, 2) := by decide +kernel
theorem dX6_init_53 : decode cX6_init 53 = .ok (.putfield 31, 3) := by decide +kernel
theorem dX6_init_56 : decode cX6_init 56 = .ok (.aload_n 0, 1) := by decide +kernel
theorem dX6_init_57 : decode cX6_init 57 = .ok (.bipush 50, 2) := by decide +kernel
theorem dX6_init_59 : decode cX6_init 59 = .ok (.newarray .int, 2) := by decide +kernel
theorem dX6_init_61 : decode cX6_init 61 = .ok (.putfield 34, 3) := by decide +kernel
theorem dX6_init_64 : decode cX6_init 64 = .ok (.aload_n 0, 1) := by decide +kernel
theorem dX6_init_65 : decode cX6_init 65 = .ok (.bipush 70, 2) := by decide +kernel
theorem dX6_init_67 : decode cX6_init 67 = .ok (.newarray .int, 2) := by decide +kernel
theorem dX6_init_69 : decode cX6_init 69 = .ok (.putfield 37, 3) := by decide +kernel
theorem dX6_init_72 : decode cX6_init 72 = .ok (.aload_n 0, 1) := by decide +kernel
theorem dX6_init_73 : decode cX6_init 73 = .ok (.sipush 420, 3) := by decide +kernel
theorem dX6_init_76 : decode cX6_init 76 = .ok (.newarray .int, 2) := by decide +kernel
theorem dX6_init_78 : decode cX6_init 78 = .ok (.putfield 40, 3) := by decide +kernel
theorem dX6_init_81 : decode cX6_init 81 = .ok (.aload_n 0, 1) := by decide +kernel
theorem dX6_init_82 : decode cX6_init 82 = .ok (.sipush 800, 3) := by decide +kernel
theorem dX6_init_85 : decode cX6_init 85 = .ok (.newarray .int, 2) := by decide +kernel
theorem dX6_init_87 : decode cX6_init 87 = .ok (.putfield 43, 3) := by decide +kernel
theorem dX6_init_90 : decode cX6_init 90 = .ok (.aload_n 0, 1) := by decide +kernel
theorem dX6_init_91 : decode cX6_init 91 = .ok (.iconst 3, 1) := by decide +kernel
theorem dX6_init_92 : decode cX6_init 92 = .ok (.newarray .boolean, 2) := by decide +kernel
theorem dX6_init_94 : decode cX6_init 94 = .ok (.putfield 46, 3) := by decide +kernel
theorem dX6_init_97 : decode cX6_init 97 = .ok (.aload_n 0, 1) := by decide +kernel
theorem dX6_init_98 : decode cX6_init 98 = .ok (.bipush 7, 2) := by decide +kernel
theorem dX6_init_100 : decode cX6_init 100 = .ok (.newarray .int, 2) := by decide +kernel
theorem dX6_init_102 : decode cX6_init 102 = .ok (.putfield 50, 3) := by decide +kernel
theorem dX6_init_105 : decode cX6_init 105 = .ok (.aload_n 0, 1) := by decide +kernel
theorem dX6_init_106 : decode cX6_init 106 = .ok (.bipush 84, 2) := by decide +kernel
theorem dX6_init_108 : decode cX6_init 108 = .ok (.newarray .int, 2) := by decide +kernel
theorem dX6_init_110 : decode cX6_init 110 = .ok (.putfield 53, 3) := by decide +kernel
theorem dX6_init_113 : decode cX6_init 113 = .ok (.aload_n 0, 1) := by decide +kernel
theorem dX6_init_114 : decode cX6_init 114 = .ok (.bipush 7, 2) := by decide +kernel
theorem dX6_init_116 : decode cX6_init 116 = .ok (.newarray .int, 2) := by decide +kernel
theorem dX6_init_118 : decode cX6_init 118 = .ok (.putfield 56, 3) := by decide +kernel
theorem dX6_init_121 : decode cX6_init 121 = .ok (.aload_n 0, 1) := by decide +kernel
theorem dX6_init_122 : decode cX6_init 122 = .ok (.bipush 7, 2) := by decide +kernel
theorem dX6_init_124 : decode cX6_init 124 = .ok (.newarray .int, 2) := by decide +kernel
theorem dX6_init_126 : decode cX6_init 126 = .ok (.putfield 59, 3) := by decide +kernel
theorem dX6_init_129 : decode cX6_init 129 = .ok (.aload_n 0, 1) := by decide +kernel
theorem dX6_init_130 : decode cX6_init 130 = .ok (.bipush 49, 2) := by decide +kernel
theorem dX6_init_132 : decode cX6_init 132 = .ok (.newarray .int, 2) := by decide +kernel
theorem dX6_init_134 : decode cX6_init 134 = .ok (.putfield 62, 3) := by decide +kernel
theorem dX6_init_137 : decode cX6_init 137 = .ok (.aload_n 0, 1) := by decide +kernel
theorem dX6_init_138 : decode cX6_init 138 = .ok (.bipush 120, 2) := by decide +kernel
theorem dX6_init_140 : decode cX6_init 140 = .ok (.newarray .int, 2) := by decide +kernel
theorem dX6_init_142 : decode cX6_init 142 = .ok (.putfield 65, 3) := by decide +kernel
theorem dX6_init_145 : decode cX6_init 145 = .ok (.aload_n 0, 1) := by decide +kernel
theorem dX6_init_146 : decode cX6_init 146 = .ok (.bipush 120, 2) := by decide +kernel
theorem dX6_init_148 : decode cX6_init 148 = .ok (.newarray .int, 2) := by decide +kernel
theorem dX6_init_150 : decode cX6_init 150 = .ok (.putfield 68, 3) := by decide +kernel
theorem dX6_init_153 : decode cX6_init 153 = .ok (.iconst 0, 1) := by decide +kernel
theorem dX6_init_154 : decode cX6_init 154 = .ok (.istore_n 1, 1) := by decide +kernel
theorem dX6_init_155 : decode cX6_init 155 = .ok (.iload_n 1, 1) := by decide +kernel
theorem dX6_init_156 : decode cX6_init 156 = .ok (.iconst 4, 1) := by decide +kernel
theorem dX6_init_157 : decode cX6_init 157 = .ok (.if_icmp .ge 16, 3) := by decide +kernel
theorem dX6_init_160 : decode cX6_init 160 = .ok (.aload_n 0, 1) := by decide +kernel
theorem dX6_init_161 : decode cX6_init 161 = .ok (.getfield 7, 3) := by decide +kernel
theorem dX6_init_164 : decode cX6_init 164 = .ok (.iload_n 1, 1) := by decide +kernel
theorem dX6_init_165 : decode cX6_init 165 = .ok (.iconst (-1), 1) := by decide +kernel
theorem dX6_init_166 : decode cX6_init 166 = .ok (.iastore, 1) := by decide +kernel
theorem dX6_init_167 : decode cX6_init 167 = .ok (.iinc 1 1, 3) := by decide +kernel
theorem dX6_init_170 : decode cX6_init 170 = .ok (.goto (-15), 3) := by decide +kernel
theorem dX6_init_173 : decode cX6_init 173 = .ok (.return_, 1) := by decide +kernel
theorem dX6_in_0 : decode cX6_in 0 = .ok (.lload_n 0, 1) := by decide +kernel
theorem dX6_in_1 : decode cX6_in 1 = .ok (.lload_n 2, 1) := by decide +kernel
theorem dX6_in_2 : decode cX6_in 2 = .ok (.lcmp, 1) := by decide +kernel
theorem dX6_in_3 : decode cX6_in 3 = .ok (.ifCond .lt 14, 3) := by decide +kernel
theorem dX6_in_6 : decode cX6_in 6 = .ok (.lload_n 0, 1) := by decide +kernel
theorem dX6_in_7 : decode cX6_in 7 = .ok (.lload 4, 2) := by decide +kernel
theorem dX6_in_9 : decode cX6_in 9 = .ok (.lcmp, 1) := by decide +kernel
theorem dX6_in_10 : decode cX6_in 10 = .ok (.ifCond .gt 7, 3) := by decide +kernel
theorem dX6_in_13 : decode cX6_in 13 = .ok (.iconst 1, 1) := by decide +kernel
theorem dX6_in_14 : decode cX6_in 14 = .ok (.goto 4, 3) := by decide +kernel
theorem dX6_in_17 : decode cX6_in 17 = .ok (.iconst 0, 1) := by decide +kernel
theorem dX6_in_18 : decode cX6_in 18 = .ok (.ireturn, 1) := by decide +kernel
theorem dX6_isSlot_0 : decode cX6_isSlot 0 = .ok (.iload_n 0, 1) := by decide +kernel
theorem dX6_isSlot_1 : decode cX6_isSlot 1 = .ok (.i2l, 1) := by decide +kernel
theorem dX6_isSlot_2 : decode cX6_isSlot 2 = .ok (.lconst 0, 1) := by decide +kernel
theorem dX6_isSlot_3 : decode cX6_isSlot 3 = .ok (.ldc2_w 74, 3) := by decide +kernel
theorem dX6_isSlot_6 : decode cX6_isSlot 6 = .ok (.invokestatic 76, 3) := by decide +kernel
theorem dX6_isSlot_9 : decode cX6_isSlot 9 = .ok (.ireturn, 1) := by decide +kernel
theorem dX6_row_0 : decode cX6_row 0 = .ok (.aload_n 0, 1) := by decide +kernel
theorem dX6_row_1 : decode cX6_row 1 = .ok (.iconst 0, 1) := by decide +kernel
theorem dX6_row_2 : decode cX6_row 2 = .ok (.putfield 71, 3) := by decide +kernel
theorem dX6_row_5 : decode cX6_row 5 = .ok (.iload_n 1, 1) := by decide +kernel
theorem dX6_row_6 : decode cX6_row 6 = .ok (.invokestatic 80, 3) := by decide +kernel
theorem dX6_row_9 : decode cX6_row 9 = .ok (.ifCond .eq 21, 3) := by decide +kernel
theorem dX6_row_12 : decode cX6_row 12 = .ok (.iload_n 2, 1) := by decide +kernel
theorem dX6_row_13 : decode cX6_row 13 = .ok (.i2l, 1) := by decide +kernel
theorem dX6_row_14 : decode cX6_row 14 = .ok (.lconst 0, 1) := by decide +kernel
theorem dX6_row_15 : decode cX6_row 15 = .ok (.ldc2_w 74, 3) := by decide +kernel
theorem dX6_row_18 : decode cX6_row 18 = .ok (.invokestatic 76, 3) := by decide +kernel
theorem dX6_row_21 : decode cX6_row 21 = .ok (.ifCond .eq 9, 3) := by decide +kernel
theorem dX6_row_24 : decode cX6_row 24 = .ok (.iload_n 3, 1) := by decide +kernel
theorem dX6_row_25 : decode cX6_row 25 = .ok (.bipush 60, 2) := by decide +kernel
theorem dX6_row_27 : decode cX6_row 27 = .ok (.if_icmp .le 6, 3) := by decide +kernel
theorem dX6_row_30 : decode cX6_row 30 = .ok (.bipush (-2), 2) := by decide +kernel
theorem dX6_row_32 : decode cX6_row 32 = .ok (.ireturn, 1) := by decide +kernel
theorem dX6_row_33 : decode cX6_row 33 = .ok (.iload_n 3, 1) := by decide +kernel
theorem dX6_row_34 : decode cX6_row 34 = .ok (.ifCond .ge 6, 3) := by decide +kernel
theorem dX6_row_37 : decode cX6_row 37 = .ok (.bipush (-3), 2) := by decide +kernel
theorem dX6_row_39 : decode cX6_row 39 = .ok (.ireturn, 1) := by decide +kernel
theorem dX6_row_40 : decode cX6_row 40 = .ok (.aload_n 0, 1) := by decide +kernel
theorem dX6_row_41 : decode cX6_row 41 = .ok (.getfield 7, 3) := by decide +kernel
theorem dX6_row_44 : decode cX6_row 44 = .ok (.iload_n 1, 1) := by decide +kernel
theorem dX6_row_45 : decode cX6_row 45 = .ok (.iload_n 2, 1) := by decide +kernel
theorem dX6_row_46 : decode cX6_row 46 = .ok (.iastore, 1) := by decide +kernel
theorem dX6_row_47 : decode cX6_row 47 = .ok (.aload_n 0, 1) := by decide +kernel
theorem dX6_row_48 : decode cX6_row 48 = .ok (.getfield 13, 3) := by decide +kernel
theorem dX6_row_51 : decode cX6_row 51 = .ok (.iload_n 1, 1) := by decide +kernel
theorem dX6_row_52 : decode cX6_row 52 = .ok (.iload_n 3, 1) := by decide +kernel
theorem dX6_row_53 : decode cX6_row 53 = .ok (.iastore, 1) := by decide +kernel
theorem dX6_row_54 : decode cX6_row 54 = .ok (.iconst 0, 1) := by decide +kernel
theorem dX6_row_55 : decode cX6_row 55 = .ok (.istore 4, 2) := by decide +kernel
theorem dX6_row_57 : decode cX6_row 57 = .ok (.iload 4, 2) := by decide +kernel
theorem dX6_row_59 : decode cX6_row 59 = .ok (.iload_n 3, 1) := by decide +kernel
theorem dX6_row_60 : decode cX6_row 60 = .ok (.if_icmp .ge 22, 3) := by decide +kernel
theorem dX6_row_63 : decode cX6_row 63 = .ok (.aload_n 0, 1) := by decide +kernel
theorem dX6_row_64 : decode cX6_row 64 = .ok (.getfield 16, 3) := by decide +kernel
theorem dX6_row_67 : decode cX6_row 67 = .ok (.bipush 60, 2) := by decide +kernel
theorem dX6_row_69 : decode cX6_row 69 = .ok (.iload_n 1, 1) := by decide +kernel
theorem dX6_row_70 : decode cX6_row 70 = .ok (.imul, 1) := by decide +kernel
theorem dX6_row_71 : decode cX6_row 71 = .ok (.iload 4, 2) := by decide +kernel
theorem dX6_row_73 : decode cX6_row 73 = .ok (.iadd, 1) := by decide +kernel
theorem dX6_row_74 : decode cX6_row 74 = .ok (.lconst 0, 1) := by decide +kernel
theorem dX6_row_75 : decode cX6_row 75 = .ok (.lastore, 1) := by decide +kernel
theorem dX6_row_76 : decode cX6_row 76 = .ok (.iinc 4 1, 3) := by decide +kernel
theorem dX6_row_79 : decode cX6_row 79 = .ok (.goto (-22), 3) := by decide +kernel
theorem dX6_row_82 : decode cX6_row 82 = .ok (.iconst 0, 1) := by decide +kernel
theorem dX6_row_83 : decode cX6_row 83 = .ok (.ireturn, 1) := by decide +kernel
theorem dX6_write_0 : decode cX6_write 0 = .ok (.aload_n 0, 1) := by decide +kernel
theorem dX6_write_1 : decode cX6_write 1 = .ok (.iconst 0, 1) := by decide +kernel
theorem dX6_write_2 : decode cX6_write 2 = .ok (.putfield 71, 3) := by decide +kernel
theorem dX6_write_5 : decode cX6_write 5 = .ok (.iload_n 1, 1) := by decide +kernel
theorem dX6_write_6 : decode cX6_write 6 = .ok (.invokestatic 80, 3) := by decide +kernel
theorem dX6_write_9 : decode cX6_write 9 = .ok (.ifCond .ne 6, 3) := by decide +kernel
theorem dX6_write_12 : decode cX6_write 12 = .ok (.bipush (-2), 2) := by decide +kernel
theorem dX6_write_14 : decode cX6_write 14 = .ok (.ireturn, 1) := by decide +kernel
theorem dX6_write_15 : decode cX6_write 15 = .ok (.aload_n 0, 1) := by decide +kernel
theorem dX6_write_16 : decode cX6_write 16 = .ok (.getfield 7, 3) := by decide +kernel
theorem dX6_write_19 : decode cX6_write 19 = .ok (.iload_n 1, 1) := by decide +kernel
theorem dX6_write_20 : decode cX6_write 20 = .ok (.iaload, 1) := by decide +kernel
theorem dX6_write_21 : decode cX6_write 21 = .ok (.iconst (-1), 1) := by decide +kernel
theorem dX6_write_22 : decode cX6_write 22 = .ok (.if_icmp .ne 6, 3) := by decide +kernel
theorem dX6_write_25 : decode cX6_write 25 = .ok (.bipush (-6), 2) := by decide +kernel
theorem dX6_write_27 : decode cX6_write 27 = .ok (.ireturn, 1) := by decide +kernel
theorem dX6_paste_0 : decode cX6_paste 0 = .ok (.aload_n 0, 1) := by decide +kernel
theorem dX6_paste_1 : decode cX6_paste 1 = .ok (.iconst 0, 1) := by decide +kernel
theorem dX6_paste_2 : decode cX6_paste 2 = .ok (.putfield 71, 3) := by decide +kernel
theorem dX6_paste_5 : decode cX6_paste 5 = .ok (.iload_n 1, 1) := by decide +kernel
theorem dX6_paste_6 : decode cX6_paste 6 = .ok (.invokestatic 80, 3) := by decide +kernel
theorem dX6_paste_9 : decode cX6_paste 9 = .ok (.ifCond .eq 10, 3) := by decide +kernel
theorem dX6_paste_12 : decode cX6_paste 12 = .ok (.iload_n 3, 1) := by decide +kernel
theorem dX6_paste_13 : decode cX6_paste 13 = .ok (.invokestatic 80, 3) := by decide +kernel
theorem dX6_paste_16 : decode cX6_paste 16 = .ok (.ifCond .ne 6, 3) := by decide +kernel
theorem dX6_paste_19 : decode cX6_paste 19 = .ok (.bipush (-2), 2) := by decide +kernel
theorem dX6_paste_21 : decode cX6_paste 21 = .ok (.ireturn, 1) := by decide +kernel
theorem dX6_paste_22 : decode cX6_paste 22 = .ok (.aload_n 0, 1) := by decide +kernel
theorem dX6_paste_23 : decode cX6_paste 23 = .ok (.getfield 7, 3) := by decide +kernel
theorem dX6_paste_26 : decode cX6_paste 26 = .ok (.iload_n 1, 1) := by decide +kernel
theorem dX6_paste_27 : decode cX6_paste 27 = .ok (.iaload, 1) := by decide +kernel
theorem dX6_paste_28 : decode cX6_paste 28 = .ok (.iconst (-1), 1) := by decide +kernel
theorem dX6_paste_29 : decode cX6_paste 29 = .ok (.if_icmp .eq 13, 3) := by decide +kernel
theorem dX6_paste_42 : decode cX6_paste 42 = .ok (.bipush (-6), 2) := by decide +kernel
theorem dX6_paste_44 : decode cX6_paste 44 = .ok (.ireturn, 1) := by decide +kernel
theorem dX6_feed_0 : decode cX6_feed 0 = .ok (.aload_n 0, 1) := by decide +kernel
theorem dX6_feed_1 : decode cX6_feed 1 = .ok (.iconst 0, 1) := by decide +kernel
theorem dX6_feed_2 : decode cX6_feed 2 = .ok (.putfield 71, 3) := by decide +kernel
theorem dX6_feed_5 : decode cX6_feed 5 = .ok (.aload_n 0, 1) := by decide +kernel
theorem dX6_feed_6 : decode cX6_feed 6 = .ok (.getfield 88, 3) := by decide +kernel
theorem dX6_feed_9 : decode cX6_feed 9 = .ok (.bipush 20, 2) := by decide +kernel
theorem dX6_feed_11 : decode cX6_feed 11 = .ok (.iadd, 1) := by decide +kernel
theorem dX6_feed_12 : decode cX6_feed 12 = .ok (.sipush 1200, 3) := by decide +kernel
theorem dX6_feed_15 : decode cX6_feed 15 = .ok (.if_icmp .le 5, 3) := by decide +kernel
theorem dX6_feed_20 : decode cX6_feed 20 = .ok (.aload_n 0, 1) := by decide +kernel
theorem dX6_feed_21 : decode cX6_feed 21 = .ok (.iload_n 1, 1) := by decide +kernel
theorem dX6_feed_22 : decode cX6_feed 22 = .ok (.invokevirtual 91, 3) := by decide +kernel
theorem dX6_feed_25 : decode cX6_feed 25 = .ok (.aload_n 0, 1) := by decide +kernel
theorem dX6_feed_26 : decode cX6_feed 26 = .ok (.iload_n 2, 1) := by decide +kernel
theorem dX6_feed_27 : decode cX6_feed 27 = .ok (.invokevirtual 91, 3) := by decide +kernel
theorem dX6_feed_30 : decode cX6_feed 30 = .ok (.aload_n 0, 1) := by decide +kernel
theorem dX6_feed_31 : decode cX6_feed 31 = .ok (.iload_n 3, 1) := by decide +kernel
theorem dX6_feed_32 : decode cX6_feed 32 = .ok (.invokevirtual 91, 3) := by decide +kernel
theorem dX6_feed_35 : decode cX6_feed 35 = .ok (.aload_n 0, 1) := by decide +kernel
theorem dX6_feed_36 : decode cX6_feed 36 = .ok (.iload 4, 2) := by decide +kernel
theorem dX6_feed_38 : decode cX6_feed 38 = .ok (.invokevirtual 91, 3) := by decide +kernel
theorem dX6_feed_41 : decode cX6_feed 41 = .ok (.aload_n 0, 1) := by decide +kernel
theorem dX6_feed_42 : decode cX6_feed 42 = .ok (.iload 5, 2) := by decide +kernel
theorem dX6_feed_44 : decode cX6_feed 44 = .ok (.invokevirtual 91, 3) := by decide +kernel
theorem dX6_feed_47 : decode cX6_feed 47 = .ok (.aload_n 0, 1) := by decide +kernel
theorem dX6_feed_48 : decode cX6_feed 48 = .ok (.getfield 88, 3) := by decide +kernel
theorem dX6_feed_51 : decode cX6_feed 51 = .ok (.ireturn, 1) := by decide +kernel
theorem dX6_four_0 : decode cX6_four 0 = .ok (.bipush 24, 2) := by decide +kernel
theorem dX6_four_2 : decode cX6_four 2 = .ok (.istore_n 2, 1) := by decide +kernel
theorem dX6_four_3 : decode cX6_four 3 = .ok (.iload_n 2, 1) := by decide +kernel
theorem dX6_four_4 : decode cX6_four 4 = .ok (.ifCond .lt 32, 3) := by decide +kernel
theorem dX6_four_7 : decode cX6_four 7 = .ok (.aload_n 0, 1) := by decide +kernel
theorem dX6_four_8 : decode cX6_four 8 = .ok (.getfield 23, 3) := by decide +kernel
theorem dX6_four_11 : decode cX6_four 11 = .ok (.aload_n 0, 1) := by decide +kernel
theorem dX6_four_12 : decode cX6_four 12 = .ok (.getfield 88, 3) := by decide +kernel
theorem dX6_four_15 : decode cX6_four 15 = .ok (.iload_n 1, 1) := by decide +kernel
theorem dX6_four_16 : decode cX6_four 16 = .ok (.iload_n 2, 1) := by decide +kernel
theorem dX6_four_17 : decode cX6_four 17 = .ok (.ishr, 1) := by decide +kernel
theorem dX6_four_18 : decode cX6_four 18 = .ok (.i2b, 1) := by decide +kernel
theorem dX6_four_19 : decode cX6_four 19 = .ok (.bastore, 1) := by decide +kernel
theorem dX6_four_20 : decode cX6_four 20 = .ok (.aload_n 0, 1) := by decide +kernel
theorem dX6_four_21 : decode cX6_four 21 = .ok (.dup, 1) := by decide +kernel
theorem dX6_four_22 : decode cX6_four 22 = .ok (.getfield 88, 3) := by decide +kernel
theorem dX6_four_25 : decode cX6_four 25 = .ok (.iconst 1, 1) := by decide +kernel
theorem dX6_four_26 : decode cX6_four 26 = .ok (.iadd, 1) := by decide +kernel
theorem dX6_four_27 : decode cX6_four 27 = .ok (.putfield 88, 3) := by decide +kernel
theorem dX6_four_30 : decode cX6_four 30 = .ok (.iinc 2 (-8), 3) := by decide +kernel
theorem dX6_four_33 : decode cX6_four 33 = .ok (.goto (-30), 3) := by decide +kernel
theorem dX6_four_36 : decode cX6_four 36 = .ok (.return_, 1) := by decide +kernel
theorem dX6_end_0 : decode cX6_end 0 = .ok (.aload_n 0, 1) := by decide +kernel
theorem dX6_end_1 : decode cX6_end 1 = .ok (.iconst 0, 1) := by decide +kernel
theorem dX6_end_2 : decode cX6_end 2 = .ok (.putfield 71, 3) := by decide +kernel
theorem dX6_end_5 : decode cX6_end 5 = .ok (.iload_n 1, 1) := by decide +kernel
theorem dX6_end_6 : decode cX6_end 6 = .ok (.i2l, 1) := by decide +kernel
theorem dX6_end_7 : decode cX6_end 7 = .ok (.lconst 0, 1) := by decide +kernel
theorem dX6_end_8 : decode cX6_end 8 = .ok (.aload_n 0, 1) := by decide +kernel
theorem dX6_end_9 : decode cX6_end 9 = .ok (.getfield 88, 3) := by decide +kernel
theorem dX6_end_12 : decode cX6_end 12 = .ok (.i2l, 1) := by decide +kernel
theorem dX6_end_13 : decode cX6_end 13 = .ok (.invokestatic 76, 3) := by decide +kernel
theorem dX6_end_16 : decode cX6_end 16 = .ok (.ifCond .ne 5, 3) := by decide +kernel
theorem dX6_end_19 : decode cX6_end 19 = .ok (.iconst (-1), 1) := by decide +kernel
theorem dX6_end_20 : decode cX6_end 20 = .ok (.ireturn, 1) := by decide +kernel
theorem dX6_end_21 : decode cX6_end 21 = .ok (.aload_n 0, 1) := by decide +kernel
theorem dX6_end_22 : decode cX6_end 22 = .ok (.iload_n 1, 1) := by decide +kernel
theorem dX6_end_23 : decode cX6_end 23 = .ok (.putfield 88, 3) := by decide +kernel
theorem dX6_end_26 : decode cX6_end 26 = .ok (.iload_n 1, 1) := by decide +kernel
theorem dX6_end_27 : decode cX6_end 27 = .ok (.ireturn, 1) := by decide +kernel
theorem dX6_isByte_0 : decode cX6_isByte 0 = .ok (.iload_n 1, 1) := by decide +kernel
theorem dX6_isByte_1 : decode cX6_isByte 1 = .ok (.aload_n 0, 1) := by decide +kernel
theorem dX6_isByte_2 : decode cX6_isByte 2 = .ok (.getfield 88, 3) := by decide +kernel
theorem dX6_isByte_5 : decode cX6_isByte 5 = .ok (.if_icmp .ge 27, 3) := by decide +kernel
theorem dX6_isByte_32 : decode cX6_isByte 32 = .ok (.iconst 0, 1) := by decide +kernel
theorem dX6_isByte_33 : decode cX6_isByte 33 = .ok (.ireturn, 1) := by decide +kernel
theorem dX6_next_0 : decode cX6_next 0 = .ok (.aload_n 0, 1) := by decide +kernel
theorem dX6_next_1 : decode cX6_next 1 = .ok (.aload_n 0, 1) := by decide +kernel
theorem dX6_next_2 : decode cX6_next 2 = .ok (.getfield 95, 3) := by decide +kernel
theorem dX6_next_5 : decode cX6_next 5 = .ok (.bipush 32, 2) := by decide +kernel
theorem dX6_next_7 : decode cX6_next 7 = .ok (.bipush 32, 2) := by decide +kernel
theorem dX6_next_9 : decode cX6_next 9 = .ok (.invokevirtual 98, 3) := by decide +kernel
theorem dX6_next_12 : decode cX6_next 12 = .ok (.ifCond .ne 18, 3) := by decide +kernel
theorem dX6_next_15 : decode cX6_next 15 = .ok (.aload_n 0, 1) := by decide +kernel
theorem dX6_next_16 : decode cX6_next 16 = .ok (.aload_n 0, 1) := by decide +kernel
theorem dX6_next_17 : decode cX6_next 17 = .ok (.getfield 95, 3) := by decide +kernel
theorem dX6_next_20 : decode cX6_next 20 = .ok (.bipush 10, 2) := by decide +kernel
theorem dX6_next_22 : decode cX6_next 22 = .ok (.bipush 10, 2) := by decide +kernel
theorem dX6_next_24 : decode cX6_next 24 = .ok (.invokevirtual 98, 3) := by decide +kernel
theorem dX6_next_27 : decode cX6_next 27 = .ok (.ifCond .eq 16, 3) := by decide +kernel
theorem dX6_next_43 : decode cX6_next 43 = .ok (.aload_n 0, 1) := by decide +kernel
theorem dX6_next_44 : decode cX6_next 44 = .ok (.aload_n 0, 1) := by decide +kernel
theorem dX6_next_45 : decode cX6_next 45 = .ok (.getfield 95, 3) := by decide +kernel
theorem dX6_next_48 : decode cX6_next 48 = .ok (.putfield 102, 3) := by decide +kernel
theorem dX6_next_51 : decode cX6_next 51 = .ok (.aload_n 0, 1) := by decide +kernel
theorem dX6_next_52 : decode cX6_next 52 = .ok (.iconst 0, 1) := by decide +kernel
theorem dX6_next_53 : decode cX6_next 53 = .ok (.putfield 105, 3) := by decide +kernel
theorem dX6_next_56 : decode cX6_next 56 = .ok (.aload_n 0, 1) := by decide +kernel
theorem dX6_next_57 : decode cX6_next 57 = .ok (.lconst 0, 1) := by decide +kernel
theorem dX6_next_58 : decode cX6_next 58 = .ok (.putfield 108, 3) := by decide +kernel
theorem dX6_next_61 : decode cX6_next 61 = .ok (.aload_n 0, 1) := by decide +kernel
theorem dX6_next_62 : decode cX6_next 62 = .ok (.getfield 95, 3) := by decide +kernel
theorem dX6_next_65 : decode cX6_next 65 = .ok (.aload_n 0, 1) := by decide +kernel
theorem dX6_next_66 : decode cX6_next 66 = .ok (.getfield 88, 3) := by decide +kernel
theorem dX6_next_69 : decode cX6_next 69 = .ok (.if_icmp .ne 11, 3) := by decide +kernel
theorem dX6_next_72 : decode cX6_next 72 = .ok (.aload_n 0, 1) := by decide +kernel
theorem dX6_next_73 : decode cX6_next 73 = .ok (.iconst 0, 1) := by decide +kernel
theorem dX6_next_74 : decode cX6_next 74 = .ok (.putfield 112, 3) := by decide +kernel
theorem dX6_next_77 : decode cX6_next 77 = .ok (.goto 230, 3) := by decide +kernel
theorem dX6_next_307 : decode cX6_next 307 = .ok (.return_, 1) := by decide +kernel
theorem dX6_isGood_0 : decode cX6_isGood 0 = .ok (.aload_n 0, 1) := by decide +kernel
theorem dX6_isGood_1 : decode cX6_isGood 1 = .ok (.getfield 123, 3) := by decide +kernel
theorem dX6_isGood_4 : decode cX6_isGood 4 = .ok (.ifCond .ne 7, 3) := by decide +kernel
theorem dX6_isGood_7 : decode cX6_isGood 7 = .ok (.iconst 1, 1) := by decide +kernel
theorem dX6_isGood_8 : decode cX6_isGood 8 = .ok (.goto 4, 3) := by decide +kernel
theorem dX6_isGood_12 : decode cX6_isGood 12 = .ok (.ireturn, 1) := by decide +kernel
theorem dX6_begins_0 : decode cX6_begins 0 = .ok (.aload_n 0, 1) := by decide +kernel
theorem dX6_begins_1 : decode cX6_begins 1 = .ok (.iconst 0, 1) := by decide +kernel
theorem dX6_begins_2 : decode cX6_begins 2 = .ok (.putfield 123, 3) := by decide +kernel
theorem dX6_begins_5 : decode cX6_begins 5 = .ok (.aload_n 0, 1) := by decide +kernel
theorem dX6_begins_6 : decode cX6_begins 6 = .ok (.iconst (-1), 1) := by decide +kernel
theorem dX6_begins_7 : decode cX6_begins 7 = .ok (.putfield 126, 3) := by decide +kernel
theorem dX6_begins_10 : decode cX6_begins 10 = .ok (.aload_n 0, 1) := by decide +kernel
theorem dX6_begins_11 : decode cX6_begins 11 = .ok (.iconst 0, 1) := by decide +kernel
theorem dX6_begins_12 : decode cX6_begins 12 = .ok (.putfield 95, 3) := by decide +kernel
theorem dX6_begins_15 : decode cX6_begins 15 = .ok (.aload_n 0, 1) := by decide +kernel
theorem dX6_begins_16 : decode cX6_begins 16 = .ok (.invokevirtual 133, 3) := by decide +kernel
theorem dX6_begins_19 : decode cX6_begins 19 = .ok (.return_, 1) := by decide +kernel
theorem dX6_isOver_0 : decode cX6_isOver 0 = .ok (.aload_n 0, 1) := by decide +kernel
theorem dX6_isOver_1 : decode cX6_isOver 1 = .ok (.iconst 0, 1) := by decide +kernel
theorem dX6_isOver_2 : decode cX6_isOver 2 = .ok (.putfield 88, 3) := by decide +kernel
theorem dX6_isOver_5 : decode cX6_isOver 5 = .ok (.aload_n 0, 1) := by decide +kernel
theorem dX6_isOver_6 : decode cX6_isOver 6 = .ok (.aload_n 0, 1) := by decide +kernel
theorem dX6_isOver_7 : decode cX6_isOver 7 = .ok (.getfield 123, 3) := by decide +kernel
theorem dX6_isOver_10 : decode cX6_isOver 10 = .ok (.putfield 150, 3) := by decide +kernel
theorem dX6_isOver_13 : decode cX6_isOver 13 = .ok (.aload_n 0, 1) := by decide +kernel
theorem dX6_isOver_14 : decode cX6_isOver 14 = .ok (.aload_n 0, 1) := by decide +kernel
theorem dX6_isOver_15 : decode cX6_isOver 15 = .ok (.getfield 123, 3) := by decide +kernel
theorem dX6_isOver_18 : decode cX6_isOver 18 = .ok (.ifCond .ne 7, 3) := by decide +kernel
theorem dX6_isOver_21 : decode cX6_isOver 21 = .ok (.iconst (-1), 1) := by decide +kernel
theorem dX6_isOver_22 : decode cX6_isOver 22 = .ok (.goto 7, 3) := by decide +kernel
theorem dX6_isOver_29 : decode cX6_isOver 29 = .ok (.putfield 27, 3) := by decide +kernel
theorem dX6_isOver_32 : decode cX6_isOver 32 = .ok (.return_, 1) := by decide +kernel
theorem dX6_fault_0 : decode cX6_fault 0 = .ok (.aload_n 0, 1) := by decide +kernel
theorem dX6_fault_1 : decode cX6_fault 1 = .ok (.iconst 0, 1) := by decide +kernel
theorem dX6_fault_2 : decode cX6_fault 2 = .ok (.putfield 71, 3) := by decide +kernel
theorem dX6_fault_5 : decode cX6_fault 5 = .ok (.iload_n 1, 1) := by decide +kernel
theorem dX6_fault_6 : decode cX6_fault 6 = .ok (.ifCond .ne 10, 3) := by decide +kernel
theorem dX6_fault_9 : decode cX6_fault 9 = .ok (.aload_n 0, 1) := by decide +kernel
theorem dX6_fault_10 : decode cX6_fault 10 = .ok (.getfield 150, 3) := by decide +kernel
theorem dX6_fault_13 : decode cX6_fault 13 = .ok (.goto 16, 3) := by decide +kernel
theorem dX6_fault_16 : decode cX6_fault 16 = .ok (.iload_n 1, 1) := by decide +kernel
theorem dX6_fault_17 : decode cX6_fault 17 = .ok (.iconst 1, 1) := by decide +kernel
theorem dX6_fault_18 : decode cX6_fault 18 = .ok (.if_icmp .ne 10, 3) := by decide +kernel
theorem dX6_fault_21 : decode cX6_fault 21 = .ok (.aload_n 0, 1) := by decide +kernel
theorem dX6_fault_22 : decode cX6_fault 22 = .ok (.getfield 27, 3) := by decide +kernel
theorem dX6_fault_25 : decode cX6_fault 25 = .ok (.goto 4, 3) := by decide +kernel
theorem dX6_fault_28 : decode cX6_fault 28 = .ok (.iconst (-1), 1) := by decide +kernel
theorem dX6_fault_29 : decode cX6_fault 29 = .ok (.ireturn, 1) := by decide +kernel
theorem dX6_hasRead_0 : decode cX6_hasRead 0 = .ok (.aload_n 0, 1) := by decide +kernel
theorem dX6_hasRead_1 : decode cX6_hasRead 1 = .ok (.getfield 34, 3) := by decide +kernel
theorem dX6_hasRead_4 : decode cX6_hasRead 4 = .ok (.bipush 40, 2) := by decide +kernel
theorem dX6_hasRead_6 : decode cX6_hasRead 6 = .ok (.iload_n 1, 1) := by decide +kernel
theorem dX6_hasRead_7 : decode cX6_hasRead 7 = .ok (.iadd, 1) := by decide +kernel
theorem dX6_hasRead_8 : decode cX6_hasRead 8 = .ok (.iaload, 1) := by decide +kernel
theorem dX6_hasRead_9 : decode cX6_hasRead 9 = .ok (.ireturn, 1) := by decide +kernel
theorem dX6_tells_0 : decode cX6_tells 0 = .ok (.aload_n 0, 1) := by decide +kernel
theorem dX6_tells_1 : decode cX6_tells 1 = .ok (.getfield 34, 3) := by decide +kernel
theorem dX6_tells_4 : decode cX6_tells 4 = .ok (.bipush 40, 2) := by decide +kernel
theorem dX6_tells_6 : decode cX6_tells 6 = .ok (.iload_n 1, 1) := by decide +kernel
theorem dX6_tells_7 : decode cX6_tells 7 = .ok (.iadd, 1) := by decide +kernel
theorem dX6_tells_8 : decode cX6_tells 8 = .ok (.iload_n 2, 1) := by decide +kernel
theorem dX6_tells_9 : decode cX6_tells 9 = .ok (.iastore, 1) := by decide +kernel
theorem dX6_tells_10 : decode cX6_tells 10 = .ok (.return_, 1) := by decide +kernel
theorem dX6_clears_0 : decode cX6_clears 0 = .ok (.aload_n 0, 1) := by decide +kernel
theorem dX6_clears_1 : decode cX6_clears 1 = .ok (.getfield 31, 3) := by decide +kernel
theorem dX6_clears_4 : decode cX6_clears 4 = .ok (.iconst 4, 1) := by decide +kernel
theorem dX6_clears_5 : decode cX6_clears 5 = .ok (.iconst 0, 1) := by decide +kernel
theorem dX6_clears_6 : decode cX6_clears 6 = .ok (.iastore, 1) := by decide +kernel
theorem dX6_clears_7 : decode cX6_clears 7 = .ok (.iconst 0, 1) := by decide +kernel
theorem dX6_clears_8 : decode cX6_clears 8 = .ok (.istore_n 1, 1) := by decide +kernel
theorem dX6_clears_9 : decode cX6_clears 9 = .ok (.iload_n 1, 1) := by decide +kernel
theorem dX6_clears_10 : decode cX6_clears 10 = .ok (.bipush 10, 2) := by decide +kernel
theorem dX6_clears_12 : decode cX6_clears 12 = .ok (.if_icmp .ge 15, 3) := by decide +kernel
theorem dX6_clears_15 : decode cX6_clears 15 = .ok (.aload_n 0, 1) := by decide +kernel
theorem dX6_clears_16 : decode cX6_clears 16 = .ok (.iload_n 1, 1) := by decide +kernel
theorem dX6_clears_17 : decode cX6_clears 17 = .ok (.iconst 0, 1) := by decide +kernel
theorem dX6_clears_18 : decode cX6_clears 18 = .ok (.invokevirtual 164, 3) := by decide +kernel
theorem dX6_clears_21 : decode cX6_clears 21 = .ok (.iinc 1 1, 3) := by decide +kernel
theorem dX6_clears_24 : decode cX6_clears 24 = .ok (.goto (-15), 3) := by decide +kernel
theorem dX6_clears_27 : decode cX6_clears 27 = .ok (.return_, 1) := by decide +kernel
theorem dX6_city_0 : decode cX6_city 0 = .ok (.aload_n 0, 1) := by decide +kernel
theorem dX6_city_1 : decode cX6_city 1 = .ok (.iconst 0, 1) := by decide +kernel
theorem dX6_city_2 : decode cX6_city 2 = .ok (.putfield 71, 3) := by decide +kernel
theorem dX6_city_5 : decode cX6_city 5 = .ok (.aload_n 0, 1) := by decide +kernel
theorem dX6_city_6 : decode cX6_city 6 = .ok (.invokevirtual 202, 3) := by decide +kernel
theorem dX6_city_9 : decode cX6_city 9 = .ok (.aload_n 0, 1) := by decide +kernel
theorem dX6_city_10 : decode cX6_city 10 = .ok (.invokevirtual 205, 3) := by decide +kernel
theorem dX6_city_13 : decode cX6_city 13 = .ok (.aload_n 0, 1) := by decide +kernel
theorem dX6_city_14 : decode cX6_city 14 = .ok (.invokevirtual 170, 3) := by decide +kernel
theorem dX6_city_17 : decode cX6_city 17 = .ok (.ifCond .eq 54, 3) := by decide +kernel
theorem dX6_city_20 : decode cX6_city 20 = .ok (.aload_n 0, 1) := by decide +kernel
theorem dX6_city_21 : decode cX6_city 21 = .ok (.getfield 112, 3) := by decide +kernel
theorem dX6_city_24 : decode cX6_city 24 = .ok (.ifCond .eq 47, 3) := by decide +kernel
theorem dX6_city_71 : decode cX6_city 71 = .ok (.aload_n 0, 1) := by decide +kernel
theorem dX6_city_72 : decode cX6_city 72 = .ok (.invokevirtual 217, 3) := by decide +kernel
theorem dX6_city_75 : decode cX6_city 75 = .ok (.aload_n 0, 1) := by decide +kernel
theorem dX6_city_76 : decode cX6_city 76 = .ok (.getfield 123, 3) := by decide +kernel
theorem dX6_city_79 : decode cX6_city 79 = .ok (.ifCond .eq 6, 3) := by decide +kernel
theorem dX6_city_85 : decode cX6_city 85 = .ok (.iconst 0, 1) := by decide +kernel
theorem dX6_city_86 : decode cX6_city 86 = .ok (.istore_n 1, 1) := by decide +kernel
theorem dX6_city_87 : decode cX6_city 87 = .ok (.iload_n 1, 1) := by decide +kernel
theorem dX6_city_88 : decode cX6_city 88 = .ok (.aload_n 0, 1) := by decide +kernel
theorem dX6_city_89 : decode cX6_city 89 = .ok (.bipush 7, 2) := by decide +kernel
theorem dX6_city_91 : decode cX6_city 91 = .ok (.invokevirtual 153, 3) := by decide +kernel
theorem dX6_city_94 : decode cX6_city 94 = .ok (.if_icmp .ge 45, 3) := by decide +kernel
theorem dX6_city_139 : decode cX6_city 139 = .ok (.aload_n 0, 1) := by decide +kernel
theorem dX6_city_140 : decode cX6_city 140 = .ok (.iconst 4, 1) := by decide +kernel
theorem dX6_city_141 : decode cX6_city 141 = .ok (.iconst 0, 1) := by decide +kernel
theorem dX6_city_142 : decode cX6_city 142 = .ok (.invokevirtual 220, 3) := by decide +kernel
theorem dX6_city_145 : decode cX6_city 145 = .ok (.aload_n 0, 1) := by decide +kernel
theorem dX6_city_146 : decode cX6_city 146 = .ok (.getfield 31, 3) := by decide +kernel
theorem dX6_city_149 : decode cX6_city 149 = .ok (.iconst 0, 1) := by decide +kernel
theorem dX6_city_150 : decode cX6_city 150 = .ok (.iaload, 1) := by decide +kernel
theorem dX6_city_151 : decode cX6_city 151 = .ok (.ireturn, 1) := by decide +kernel
theorem dX6_copyRow_0 : decode cX6_copyRow 0 = .ok (.iconst 0, 1) := by decide +kernel
theorem dX6_copyRow_1 : decode cX6_copyRow 1 = .ok (.istore 4, 2) := by decide +kernel
theorem dX6_copyRow_3 : decode cX6_copyRow 3 = .ok (.iload 4, 2) := by decide +kernel
theorem dX6_copyRow_5 : decode cX6_copyRow 5 = .ok (.iload_n 1, 1) := by decide +kernel
theorem dX6_copyRow_6 : decode cX6_copyRow 6 = .ok (.if_icmp .ge 25, 3) := by decide +kernel
theorem dX6_copyRow_9 : decode cX6_copyRow 9 = .ok (.aload_n 0, 1) := by decide +kernel
theorem dX6_copyRow_10 : decode cX6_copyRow 10 = .ok (.iload_n 1, 1) := by decide +kernel
theorem dX6_copyRow_11 : decode cX6_copyRow 11 = .ok (.iload_n 3, 1) := by decide +kernel
theorem dX6_copyRow_12 : decode cX6_copyRow 12 = .ok (.imul, 1) := by decide +kernel
theorem dX6_copyRow_13 : decode cX6_copyRow 13 = .ok (.iload 4, 2) := by decide +kernel
theorem dX6_copyRow_15 : decode cX6_copyRow 15 = .ok (.iadd, 1) := by decide +kernel
theorem dX6_copyRow_16 : decode cX6_copyRow 16 = .ok (.aload_n 0, 1) := by decide +kernel
theorem dX6_copyRow_17 : decode cX6_copyRow 17 = .ok (.iload_n 1, 1) := by decide +kernel
theorem dX6_copyRow_18 : decode cX6_copyRow 18 = .ok (.iload_n 2, 1) := by decide +kernel
theorem dX6_copyRow_19 : decode cX6_copyRow 19 = .ok (.imul, 1) := by decide +kernel
theorem dX6_copyRow_20 : decode cX6_copyRow 20 = .ok (.iload 4, 2) := by decide +kernel
theorem dX6_copyRow_22 : decode cX6_copyRow 22 = .ok (.iadd, 1) := by decide +kernel
theorem dX6_copyRow_23 : decode cX6_copyRow 23 = .ok (.iaload, 1) := by decide +kernel
theorem dX6_copyRow_24 : decode cX6_copyRow 24 = .ok (.iastore, 1) := by decide +kernel
theorem dX6_copyRow_25 : decode cX6_copyRow 25 = .ok (.iinc 4 1, 3) := by decide +kernel
theorem dX6_copyRow_28 : decode cX6_copyRow 28 = .ok (.goto (-25), 3) := by decide +kernel
theorem dX6_copyRow_31 : decode cX6_copyRow 31 = .ok (.return_, 1) := by decide +kernel
theorem dX6_copyCity_0 : decode cX6_copyCity 0 = .ok (.aload_n 0, 1) := by decide +kernel
theorem dX6_copyCity_1 : decode cX6_copyCity 1 = .ok (.getfield 31, 3) := by decide +kernel
theorem dX6_copyCity_4 : decode cX6_copyCity 4 = .ok (.iconst 1, 1) := by decide +kernel
theorem dX6_copyCity_5 : decode cX6_copyCity 5 = .ok (.iload_n 1, 1) := by decide +kernel
theorem dX6_copyCity_6 : decode cX6_copyCity 6 = .ok (.iload_n 2, 1) := by decide +kernel
theorem dX6_copyCity_7 : decode cX6_copyCity 7 = .ok (.invokestatic 223, 3) := by decide +kernel
theorem dX6_copyCity_10 : decode cX6_copyCity 10 = .ok (.aload_n 0, 1) := by decide +kernel
theorem dX6_copyCity_11 : decode cX6_copyCity 11 = .ok (.getfield 34, 3) := by decide +kernel
theorem dX6_copyCity_14 : decode cX6_copyCity 14 = .ok (.bipush 10, 2) := by decide +kernel
theorem dX6_copyCity_16 : decode cX6_copyCity 16 = .ok (.iload_n 1, 1) := by decide +kernel
theorem dX6_copyCity_17 : decode cX6_copyCity 17 = .ok (.iload_n 2, 1) := by decide +kernel
theorem dX6_copyCity_18 : decode cX6_copyCity 18 = .ok (.invokestatic 223, 3) := by decide +kernel
theorem dX6_copyCity_21 : decode cX6_copyCity 21 = .ok (.aload_n 0, 1) := by decide +kernel
theorem dX6_copyCity_22 : decode cX6_copyCity 22 = .ok (.getfield 37, 3) := by decide +kernel
theorem dX6_copyCity_25 : decode cX6_copyCity 25 = .ok (.bipush 14, 2) := by decide +kernel
theorem dX6_copyCity_27 : decode cX6_copyCity 27 = .ok (.iload_n 1, 1) := by decide +kernel
theorem dX6_copyCity_28 : decode cX6_copyCity 28 = .ok (.iload_n 2, 1) := by decide +kernel
theorem dX6_copyCity_29 : decode cX6_copyCity 29 = .ok (.invokestatic 223, 3) := by decide +kernel
theorem dX6_copyCity_32 : decode cX6_copyCity 32 = .ok (.aload_n 0, 1) := by decide +kernel
theorem dX6_copyCity_33 : decode cX6_copyCity 33 = .ok (.getfield 40, 3) := by decide +kernel
theorem dX6_copyCity_36 : decode cX6_copyCity 36 = .ok (.bipush 84, 2) := by decide +kernel
theorem dX6_copyCity_38 : decode cX6_copyCity 38 = .ok (.iload_n 1, 1) := by decide +kernel
theorem dX6_copyCity_39 : decode cX6_copyCity 39 = .ok (.iload_n 2, 1) := by decide +kernel
theorem dX6_copyCity_40 : decode cX6_copyCity 40 = .ok (.invokestatic 223, 3) := by decide +kernel
theorem dX6_copyCity_43 : decode cX6_copyCity 43 = .ok (.aload_n 0, 1) := by decide +kernel
theorem dX6_copyCity_44 : decode cX6_copyCity 44 = .ok (.getfield 43, 3) := by decide +kernel
theorem dX6_copyCity_47 : decode cX6_copyCity 47 = .ok (.sipush 160, 3) := by decide +kernel
theorem dX6_copyCity_50 : decode cX6_copyCity 50 = .ok (.iload_n 1, 1) := by decide +kernel
theorem dX6_copyCity_51 : decode cX6_copyCity 51 = .ok (.iload_n 2, 1) := by decide +kernel
theorem dX6_copyCity_52 : decode cX6_copyCity 52 = .ok (.invokestatic 223, 3) := by decide +kernel
theorem dX6_copyCity_55 : decode cX6_copyCity 55 = .ok (.return_, 1) := by decide +kernel
theorem dX6_isCity_0 : decode cX6_isCity 0 = .ok (.aload_n 0, 1) := by decide +kernel
theorem dX6_isCity_1 : decode cX6_isCity 1 = .ok (.getfield 31, 3) := by decide +kernel
theorem dX6_isCity_4 : decode cX6_isCity 4 = .ok (.iconst 0, 1) := by decide +kernel
theorem dX6_isCity_5 : decode cX6_isCity 5 = .ok (.iaload, 1) := by decide +kernel
theorem dX6_isCity_6 : decode cX6_isCity 6 = .ok (.ifCond .le 7, 3) := by decide +kernel
theorem dX6_isCity_13 : decode cX6_isCity 13 = .ok (.iconst 0, 1) := by decide +kernel
theorem dX6_isCity_14 : decode cX6_isCity 14 = .ok (.ireturn, 1) := by decide +kernel
theorem dX6_people_0 : decode cX6_people 0 = .ok (.aload_n 0, 1) := by decide +kernel
theorem dX6_people_1 : decode cX6_people 1 = .ok (.getfield 34, 3) := by decide +kernel
theorem dX6_people_4 : decode cX6_people 4 = .ok (.bipush 7, 2) := by decide +kernel
theorem dX6_people_6 : decode cX6_people 6 = .ok (.iaload, 1) := by decide +kernel
theorem dX6_people_7 : decode cX6_people 7 = .ok (.ireturn, 1) := by decide +kernel
theorem dX6_hours_0 : decode cX6_hours 0 = .ok (.aload_n 0, 1) := by decide +kernel
theorem dX6_hours_1 : decode cX6_hours 1 = .ok (.getfield 34, 3) := by decide +kernel
theorem dX6_hours_4 : decode cX6_hours 4 = .ok (.iconst 1, 1) := by decide +kernel
theorem dX6_hours_5 : decode cX6_hours 5 = .ok (.iaload, 1) := by decide +kernel
theorem dX6_hours_6 : decode cX6_hours 6 = .ok (.ireturn, 1) := by decide +kernel
theorem dX6_isPerson_0 : decode cX6_isPerson 0 = .ok (.lload_n 1, 1) := by decide +kernel
theorem dX6_isPerson_1 : decode cX6_isPerson 1 = .ok (.lconst 0, 1) := by decide +kernel
theorem dX6_isPerson_2 : decode cX6_isPerson 2 = .ok (.aload_n 0, 1) := by decide +kernel
theorem dX6_isPerson_3 : decode cX6_isPerson 3 = .ok (.invokevirtual 227, 3) := by decide +kernel
theorem dX6_isPerson_6 : decode cX6_isPerson 6 = .ok (.i2l, 1) := by decide +kernel
theorem dX6_isPerson_7 : decode cX6_isPerson 7 = .ok (.lconst 1, 1) := by decide +kernel
theorem dX6_isPerson_8 : decode cX6_isPerson 8 = .ok (.lsub, 1) := by decide +kernel
theorem dX6_isPerson_9 : decode cX6_isPerson 9 = .ok (.invokestatic 76, 3) := by decide +kernel
theorem dX6_isPerson_12 : decode cX6_isPerson 12 = .ok (.ireturn, 1) := by decide +kernel
theorem dX6_isPlace_0 : decode cX6_isPlace 0 = .ok (.lload_n 1, 1) := by decide +kernel
theorem dX6_isPlace_1 : decode cX6_isPlace 1 = .ok (.lconst 0, 1) := by decide +kernel
theorem dX6_isPlace_2 : decode cX6_isPlace 2 = .ok (.aload_n 0, 1) := by decide +kernel
theorem dX6_isPlace_3 : decode cX6_isPlace 3 = .ok (.getfield 34, 3) := by decide +kernel
theorem dX6_isPlace_6 : decode cX6_isPlace 6 = .ok (.iconst 0, 1) := by decide +kernel
theorem dX6_isPlace_7 : decode cX6_isPlace 7 = .ok (.iaload, 1) := by decide +kernel
theorem dX6_isPlace_8 : decode cX6_isPlace 8 = .ok (.i2l, 1) := by decide +kernel
theorem dX6_isPlace_9 : decode cX6_isPlace 9 = .ok (.lconst 1, 1) := by decide +kernel
theorem dX6_isPlace_10 : decode cX6_isPlace 10 = .ok (.lsub, 1) := by decide +kernel
theorem dX6_isPlace_11 : decode cX6_isPlace 11 = .ok (.invokestatic 76, 3) := by decide +kernel
theorem dX6_isPlace_14 : decode cX6_isPlace 14 = .ok (.ireturn, 1) := by decide +kernel
theorem dX6_isHour_0 : decode cX6_isHour 0 = .ok (.lload_n 1, 1) := by decide +kernel
theorem dX6_isHour_1 : decode cX6_isHour 1 = .ok (.lconst 0, 1) := by decide +kernel
theorem dX6_isHour_2 : decode cX6_isHour 2 = .ok (.aload_n 0, 1) := by decide +kernel
theorem dX6_isHour_3 : decode cX6_isHour 3 = .ok (.invokevirtual 231, 3) := by decide +kernel
theorem dX6_isHour_6 : decode cX6_isHour 6 = .ok (.i2l, 1) := by decide +kernel
theorem dX6_isHour_7 : decode cX6_isHour 7 = .ok (.lconst 1, 1) := by decide +kernel
theorem dX6_isHour_8 : decode cX6_isHour 8 = .ok (.lsub, 1) := by decide +kernel
theorem dX6_isHour_9 : decode cX6_isHour 9 = .ok (.invokestatic 76, 3) := by decide +kernel
theorem dX6_isHour_12 : decode cX6_isHour 12 = .ok (.ireturn, 1) := by decide +kernel
theorem dX6_areTwo_0 : decode cX6_areTwo 0 = .ok (.aload_n 0, 1) := by decide +kernel
theorem dX6_areTwo_1 : decode cX6_areTwo 1 = .ok (.iload_n 1, 1) := by decide +kernel
theorem dX6_areTwo_2 : decode cX6_areTwo 2 = .ok (.i2l, 1) := by decide +kernel
theorem dX6_areTwo_3 : decode cX6_areTwo 3 = .ok (.invokevirtual 234, 3) := by decide +kernel
theorem dX6_areTwo_6 : decode cX6_areTwo 6 = .ok (.ifCond .eq 21, 3) := by decide +kernel
theorem dX6_areTwo_27 : decode cX6_areTwo 27 = .ok (.iconst 0, 1) := by decide +kernel
theorem dX6_areTwo_28 : decode cX6_areTwo 28 = .ok (.ireturn, 1) := by decide +kernel
theorem dX6_at_0 : decode cX6_at 0 = .ok (.aload_n 0, 1) := by decide +kernel
theorem dX6_at_1 : decode cX6_at 1 = .ok (.iconst 0, 1) := by decide +kernel
theorem dX6_at_2 : decode cX6_at 2 = .ok (.putfield 71, 3) := by decide +kernel
theorem dX6_at_5 : decode cX6_at 5 = .ok (.aload_n 0, 1) := by decide +kernel
theorem dX6_at_6 : decode cX6_at 6 = .ok (.iload_n 1, 1) := by decide +kernel
theorem dX6_at_7 : decode cX6_at 7 = .ok (.i2l, 1) := by decide +kernel
theorem dX6_at_8 : decode cX6_at 8 = .ok (.invokevirtual 234, 3) := by decide +kernel
theorem dX6_at_11 : decode cX6_at 11 = .ok (.ifCond .eq 12, 3) := by decide +kernel
theorem dX6_at_23 : decode cX6_at 23 = .ok (.bipush (-2), 2) := by decide +kernel
theorem dX6_at_25 : decode cX6_at 25 = .ok (.ireturn, 1) := by decide +kernel
theorem dX6_sees_0 : decode cX6_sees 0 = .ok (.aload_n 0, 1) := by decide +kernel
theorem dX6_sees_1 : decode cX6_sees 1 = .ok (.iconst 0, 1) := by decide +kernel
theorem dX6_sees_2 : decode cX6_sees 2 = .ok (.putfield 71, 3) := by decide +kernel
theorem dX6_sees_5 : decode cX6_sees 5 = .ok (.aload_n 0, 1) := by decide +kernel
theorem dX6_sees_6 : decode cX6_sees 6 = .ok (.iload_n 1, 1) := by decide +kernel
theorem dX6_sees_7 : decode cX6_sees 7 = .ok (.i2l, 1) := by decide +kernel
theorem dX6_sees_8 : decode cX6_sees 8 = .ok (.invokevirtual 234, 3) := by decide +kernel
theorem dX6_sees_11 : decode cX6_sees 11 = .ok (.ifCond .eq 21, 3) := by decide +kernel
theorem dX6_sees_32 : decode cX6_sees 32 = .ok (.bipush (-2), 2) := by decide +kernel
theorem dX6_sees_34 : decode cX6_sees 34 = .ok (.ireturn, 1) := by decide +kernel
theorem dX6_sight_0 : decode cX6_sight 0 = .ok (.aload_n 0, 1) := by decide +kernel
theorem dX6_sight_1 : decode cX6_sight 1 = .ok (.iconst 0, 1) := by decide +kernel
theorem dX6_sight_2 : decode cX6_sight 2 = .ok (.putfield 71, 3) := by decide +kernel
theorem dX6_sight_5 : decode cX6_sight 5 = .ok (.aload_n 0, 1) := by decide +kernel
theorem dX6_sight_6 : decode cX6_sight 6 = .ok (.iload_n 1, 1) := by decide +kernel
theorem dX6_sight_7 : decode cX6_sight 7 = .ok (.i2l, 1) := by decide +kernel
theorem dX6_sight_8 : decode cX6_sight 8 = .ok (.invokevirtual 234, 3) := by decide +kernel
theorem dX6_sight_11 : decode cX6_sight 11 = .ok (.ifCond .eq 12, 3) := by decide +kernel
theorem dX6_sight_23 : decode cX6_sight 23 = .ok (.bipush (-2), 2) := by decide +kernel
theorem dX6_sight_25 : decode cX6_sight 25 = .ok (.ireturn, 1) := by decide +kernel
theorem dX6_swears_0 : decode cX6_swears 0 = .ok (.aload_n 0, 1) := by decide +kernel
theorem dX6_swears_1 : decode cX6_swears 1 = .ok (.iconst 0, 1) := by decide +kernel
theorem dX6_swears_2 : decode cX6_swears 2 = .ok (.putfield 71, 3) := by decide +kernel
theorem dX6_swears_5 : decode cX6_swears 5 = .ok (.aload_n 0, 1) := by decide +kernel
theorem dX6_swears_6 : decode cX6_swears 6 = .ok (.iload_n 1, 1) := by decide +kernel
theorem dX6_swears_7 : decode cX6_swears 7 = .ok (.i2l, 1) := by decide +kernel
theorem dX6_swears_8 : decode cX6_swears 8 = .ok (.invokevirtual 234, 3) := by decide +kernel
theorem dX6_swears_11 : decode cX6_swears 11 = .ok (.ifCond .ne 6, 3) := by decide +kernel
theorem dX6_swears_14 : decode cX6_swears 14 = .ok (.bipush (-2), 2) := by decide +kernel
theorem dX6_swears_16 : decode cX6_swears 16 = .ok (.ireturn, 1) := by decide +kernel
theorem dX6_sworn_0 : decode cX6_sworn 0 = .ok (.aload_n 0, 1) := by decide +kernel
theorem dX6_sworn_1 : decode cX6_sworn 1 = .ok (.iconst 0, 1) := by decide +kernel
theorem dX6_sworn_2 : decode cX6_sworn 2 = .ok (.putfield 71, 3) := by decide +kernel
theorem dX6_sworn_5 : decode cX6_sworn 5 = .ok (.aload_n 0, 1) := by decide +kernel
theorem dX6_sworn_6 : decode cX6_sworn 6 = .ok (.iload_n 1, 1) := by decide +kernel
theorem dX6_sworn_7 : decode cX6_sworn 7 = .ok (.i2l, 1) := by decide +kernel
theorem dX6_sworn_8 : decode cX6_sworn 8 = .ok (.invokevirtual 234, 3) := by decide +kernel
theorem dX6_sworn_11 : decode cX6_sworn 11 = .ok (.ifCond .ne 6, 3) := by decide +kernel
theorem dX6_sworn_14 : decode cX6_sworn 14 = .ok (.bipush (-2), 2) := by decide +kernel
theorem dX6_sworn_16 : decode cX6_sworn 16 = .ok (.ireturn, 1) := by decide +kernel
theorem dX6_gaps_0 : decode cX6_gaps 0 = .ok (.aload_n 0, 1) := by decide +kernel
theorem dX6_gaps_1 : decode cX6_gaps 1 = .ok (.iconst 0, 1) := by decide +kernel
theorem dX6_gaps_2 : decode cX6_gaps 2 = .ok (.putfield 71, 3) := by decide +kernel
theorem dX6_gaps_5 : decode cX6_gaps 5 = .ok (.aload_n 0, 1) := by decide +kernel
theorem dX6_gaps_6 : decode cX6_gaps 6 = .ok (.iload_n 1, 1) := by decide +kernel
theorem dX6_gaps_7 : decode cX6_gaps 7 = .ok (.i2l, 1) := by decide +kernel
theorem dX6_gaps_8 : decode cX6_gaps 8 = .ok (.invokevirtual 234, 3) := by decide +kernel
theorem dX6_gaps_11 : decode cX6_gaps 11 = .ok (.ifCond .ne 6, 3) := by decide +kernel
theorem dX6_gaps_14 : decode cX6_gaps 14 = .ok (.bipush (-2), 2) := by decide +kernel
theorem dX6_gaps_16 : decode cX6_gaps 16 = .ok (.ireturn, 1) := by decide +kernel
theorem dX6_alone_0 : decode cX6_alone 0 = .ok (.aload_n 0, 1) := by decide +kernel
theorem dX6_alone_1 : decode cX6_alone 1 = .ok (.iconst 0, 1) := by decide +kernel
theorem dX6_alone_2 : decode cX6_alone 2 = .ok (.putfield 71, 3) := by decide +kernel
theorem dX6_alone_5 : decode cX6_alone 5 = .ok (.aload_n 0, 1) := by decide +kernel
theorem dX6_alone_6 : decode cX6_alone 6 = .ok (.iload_n 1, 1) := by decide +kernel
theorem dX6_alone_7 : decode cX6_alone 7 = .ok (.i2l, 1) := by decide +kernel
theorem dX6_alone_8 : decode cX6_alone 8 = .ok (.invokevirtual 267, 3) := by decide +kernel
theorem dX6_alone_11 : decode cX6_alone 11 = .ok (.ifCond .ne 6, 3) := by decide +kernel
