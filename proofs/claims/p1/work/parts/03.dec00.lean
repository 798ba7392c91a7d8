theorem dX0_init_0 : decode cX0_init 0 = .ok (.aload_n 0, 1) := by decide +kernel
theorem dX0_init_1 : decode cX0_init 1 = .ok (.invokespecial 3, 3) := by decide +kernel
theorem dX0_init_4 : decode cX0_init 4 = .ok (.aload_n 0, 1) := by decide +kernel
theorem dX0_init_5 : decode cX0_init 5 = .ok (.bipush 7, 2) := by decide +kernel
theorem dX0_init_7 : decode cX0_init 7 = .ok (.newarray .int, 2) := by decide +kernel
theorem dX0_init_9 : decode cX0_init 9 = .ok (.putfield 9, 3) := by decide +kernel
theorem dX0_init_12 : decode cX0_init 12 = .ok (.aload_n 0, 1) := by decide +kernel
theorem dX0_init_13 : decode cX0_init 13 = .ok (.bipush 7, 2) := by decide +kernel
theorem dX0_init_15 : decode cX0_init 15 = .ok (.newarray .int, 2) := by decide +kernel
theorem dX0_init_17 : decode cX0_init 17 = .ok (.putfield 15, 3) := by decide +kernel
theorem dX0_init_20 : decode cX0_init 20 = .ok (.aload_n 0, 1) := by decide +kernel
theorem dX0_init_21 : decode cX0_init 21 = .ok (.bipush 7, 2) := by decide +kernel
theorem dX0_init_23 : decode cX0_init 23 = .ok (.newarray .int, 2) := by decide +kernel
theorem dX0_init_25 : decode cX0_init 25 = .ok (.putfield 18, 3) := by decide +kernel
theorem dX0_init_28 : decode cX0_init 28 = .ok (.aload_n 0, 1) := by decide +kernel
theorem dX0_init_29 : decode cX0_init 29 = .ok (.bipush 84, 2) := by decide +kernel
theorem dX0_init_31 : decode cX0_init 31 = .ok (.newarray .int, 2) := by decide +kernel
theorem dX0_init_33 : decode cX0_init 33 = .ok (.putfield 21, 3) := by decide +kernel
theorem dX0_init_36 : decode cX0_init 36 = .ok (.aload_n 0, 1) := by decide +kernel
theorem dX0_init_37 : decode cX0_init 37 = .ok (.bipush 7, 2) := by decide +kernel
theorem dX0_init_39 : decode cX0_init 39 = .ok (.newarray .int, 2) := by decide +kernel
theorem dX0_init_41 : decode cX0_init 41 = .ok (.putfield 24, 3) := by decide +kernel
theorem dX0_init_44 : decode cX0_init 44 = .ok (.aload_n 0, 1) := by decide +kernel
theorem dX0_init_45 : decode cX0_init 45 = .ok (.bipush 49, 2) := by decide +kernel
theorem dX0_init_47 : decode cX0_init 47 = .ok (.newarray .int, 2) := by decide +kernel
theorem dX0_init_49 : decode cX0_init 49 = .ok (.putfield 27, 3) := by decide +kernel
theorem dX0_init_52 : decode cX0_init 52 = .ok (.aload_n 0, 1) := by decide +kernel
theorem dX0_init_53 : decode cX0_init 53 = .ok (.bipush 40, 2) := by decide +kernel
theorem dX0_init_55 : decode cX0_init 55 = .ok (.newarray .int, 2) := by decide +kernel
theorem dX0_init_57 : decode cX0_init 57 = .ok (.putfield 30, 3) := by decide +kernel
theorem dX0_init_60 : decode cX0_init 60 = .ok (.aload_n 0, 1) := by decide +kernel
theorem dX0_init_61 : decode cX0_init 61 = .ok (.bipush 40, 2) := by decide +kernel
theorem dX0_init_63 : decode cX0_init 63 = .ok (.newarray .int, 2) := by decide +kernel
theorem dX0_init_65 : decode cX0_init 65 = .ok (.putfield 33, 3) := by decide +kernel
theorem dX0_init_68 : decode cX0_init 68 = .ok (.aload_n 0, 1) := by decide +kernel
theorem dX0_init_69 : decode cX0_init 69 = .ok (.bipush 40, 2) := by decide +kernel
theorem dX0_init_71 : decode cX0_init 71 = .ok (.newarray .int, 2) := by decide +kernel
theorem dX0_init_73 : decode cX0_init 73 = .ok (.putfield 36, 3) := by decide +kernel
theorem dX0_init_76 : decode cX0_init 76 = .ok (.aload_n 0, 1) := by decide +kernel
theorem dX0_init_77 : decode cX0_init 77 = .ok (.bipush 40, 2) := by decide +kernel
theorem dX0_init_79 : decode cX0_init 79 = .ok (.newarray .int, 2) := by decide +kernel
theorem dX0_init_81 : decode cX0_init 81 = .ok (.putfield 39, 3) := by decide +kernel
theorem dX0_init_84 : decode cX0_init 84 = .ok (.return_, 1) := by decide +kernel
theorem dX0_clear_0 : decode cX0_clear 0 = .ok (.iconst 0, 1) := by decide +kernel
theorem dX0_clear_1 : decode cX0_clear 1 = .ok (.istore_n 1, 1) := by decide +kernel
theorem dX0_clear_2 : decode cX0_clear 2 = .ok (.iload_n 1, 1) := by decide +kernel
theorem dX0_clear_3 : decode cX0_clear 3 = .ok (.bipush 7, 2) := by decide +kernel
theorem dX0_clear_5 : decode cX0_clear 5 = .ok (.if_icmp .ge 16, 3) := by decide +kernel
theorem dX0_clear_8 : decode cX0_clear 8 = .ok (.aload_n 0, 1) := by decide +kernel
theorem dX0_clear_9 : decode cX0_clear 9 = .ok (.getfield 9, 3) := by decide +kernel
theorem dX0_clear_12 : decode cX0_clear 12 = .ok (.iload_n 1, 1) := by decide +kernel
theorem dX0_clear_13 : decode cX0_clear 13 = .ok (.iconst 0, 1) := by decide +kernel
theorem dX0_clear_14 : decode cX0_clear 14 = .ok (.iastore, 1) := by decide +kernel
theorem dX0_clear_15 : decode cX0_clear 15 = .ok (.iinc 1 1, 3) := by decide +kernel
theorem dX0_clear_18 : decode cX0_clear 18 = .ok (.goto (-16), 3) := by decide +kernel
theorem dX0_clear_21 : decode cX0_clear 21 = .ok (.aload_n 0, 1) := by decide +kernel
theorem dX0_clear_22 : decode cX0_clear 22 = .ok (.iconst 0, 1) := by decide +kernel
theorem dX0_clear_23 : decode cX0_clear 23 = .ok (.putfield 42, 3) := by decide +kernel
theorem dX0_clear_26 : decode cX0_clear 26 = .ok (.aload_n 0, 1) := by decide +kernel
theorem dX0_clear_27 : decode cX0_clear 27 = .ok (.iconst 0, 1) := by decide +kernel
theorem dX0_clear_28 : decode cX0_clear 28 = .ok (.putfield 46, 3) := by decide +kernel
theorem dX0_clear_31 : decode cX0_clear 31 = .ok (.aload_n 0, 1) := by decide +kernel
theorem dX0_clear_32 : decode cX0_clear 32 = .ok (.iconst 0, 1) := by decide +kernel
theorem dX0_clear_33 : decode cX0_clear 33 = .ok (.putfield 49, 3) := by decide +kernel
theorem dX0_clear_36 : decode cX0_clear 36 = .ok (.aload_n 0, 1) := by decide +kernel
theorem dX0_clear_37 : decode cX0_clear 37 = .ok (.iconst 0, 1) := by decide +kernel
theorem dX0_clear_38 : decode cX0_clear 38 = .ok (.putfield 52, 3) := by decide +kernel
theorem dX0_clear_41 : decode cX0_clear 41 = .ok (.return_, 1) := by decide +kernel
theorem dX0_copyFrom_0 : decode cX0_copyFrom 0 = .ok (.aload_n 1, 1) := by decide +kernel
theorem dX0_copyFrom_1 : decode cX0_copyFrom 1 = .ok (.getfield 9, 3) := by decide +kernel
theorem dX0_copyFrom_4 : decode cX0_copyFrom 4 = .ok (.iconst 0, 1) := by decide +kernel
theorem dX0_copyFrom_5 : decode cX0_copyFrom 5 = .ok (.aload_n 0, 1) := by decide +kernel
theorem dX0_copyFrom_6 : decode cX0_copyFrom 6 = .ok (.getfield 9, 3) := by decide +kernel
theorem dX0_copyFrom_9 : decode cX0_copyFrom 9 = .ok (.iconst 0, 1) := by decide +kernel
theorem dX0_copyFrom_10 : decode cX0_copyFrom 10 = .ok (.bipush 7, 2) := by decide +kernel
theorem dX0_copyFrom_12 : decode cX0_copyFrom 12 = .ok (.invokestatic 55, 3) := by decide +kernel
theorem dX0_copyFrom_15 : decode cX0_copyFrom 15 = .ok (.aload_n 0, 1) := by decide +kernel
theorem dX0_copyFrom_16 : decode cX0_copyFrom 16 = .ok (.aload_n 1, 1) := by decide +kernel
theorem dX0_copyFrom_17 : decode cX0_copyFrom 17 = .ok (.getfield 42, 3) := by decide +kernel
theorem dX0_copyFrom_20 : decode cX0_copyFrom 20 = .ok (.putfield 42, 3) := by decide +kernel
theorem dX0_copyFrom_23 : decode cX0_copyFrom 23 = .ok (.aload_n 0, 1) := by decide +kernel
theorem dX0_copyFrom_24 : decode cX0_copyFrom 24 = .ok (.aload_n 1, 1) := by decide +kernel
theorem dX0_copyFrom_25 : decode cX0_copyFrom 25 = .ok (.getfield 46, 3) := by decide +kernel
theorem dX0_copyFrom_28 : decode cX0_copyFrom 28 = .ok (.putfield 46, 3) := by decide +kernel
theorem dX0_copyFrom_31 : decode cX0_copyFrom 31 = .ok (.aload_n 0, 1) := by decide +kernel
theorem dX0_copyFrom_32 : decode cX0_copyFrom 32 = .ok (.aload_n 1, 1) := by decide +kernel
theorem dX0_copyFrom_33 : decode cX0_copyFrom 33 = .ok (.getfield 49, 3) := by decide +kernel
theorem dX0_copyFrom_36 : decode cX0_copyFrom 36 = .ok (.putfield 49, 3) := by decide +kernel
theorem dX0_copyFrom_39 : decode cX0_copyFrom 39 = .ok (.aload_n 1, 1) := by decide +kernel
theorem dX0_copyFrom_40 : decode cX0_copyFrom 40 = .ok (.getfield 15, 3) := by decide +kernel
theorem dX0_copyFrom_43 : decode cX0_copyFrom 43 = .ok (.iconst 0, 1) := by decide +kernel
theorem dX0_copyFrom_44 : decode cX0_copyFrom 44 = .ok (.aload_n 0, 1) := by decide +kernel
theorem dX0_copyFrom_45 : decode cX0_copyFrom 45 = .ok (.getfield 15, 3) := by decide +kernel
theorem dX0_copyFrom_48 : decode cX0_copyFrom 48 = .ok (.iconst 0, 1) := by decide +kernel
theorem dX0_copyFrom_49 : decode cX0_copyFrom 49 = .ok (.bipush 7, 2) := by decide +kernel
theorem dX0_copyFrom_51 : decode cX0_copyFrom 51 = .ok (.invokestatic 55, 3) := by decide +kernel
theorem dX0_copyFrom_54 : decode cX0_copyFrom 54 = .ok (.aload_n 1, 1) := by decide +kernel
theorem dX0_copyFrom_55 : decode cX0_copyFrom 55 = .ok (.getfield 18, 3) := by decide +kernel
theorem dX0_copyFrom_58 : decode cX0_copyFrom 58 = .ok (.iconst 0, 1) := by decide +kernel
theorem dX0_copyFrom_59 : decode cX0_copyFrom 59 = .ok (.aload_n 0, 1) := by decide +kernel
theorem dX0_copyFrom_60 : decode cX0_copyFrom 60 = .ok (.getfield 18, 3) := by decide +kernel
theorem dX0_copyFrom_63 : decode cX0_copyFrom 63 = .ok (.iconst 0, 1) := by decide +kernel
theorem dX0_copyFrom_64 : decode cX0_copyFrom 64 = .ok (.bipush 7, 2) := by decide +kernel
theorem dX0_copyFrom_66 : decode cX0_copyFrom 66 = .ok (.invokestatic 55, 3) := by decide +kernel
theorem dX0_copyFrom_69 : decode cX0_copyFrom 69 = .ok (.aload_n 1, 1) := by decide +kernel
theorem dX0_copyFrom_70 : decode cX0_copyFrom 70 = .ok (.getfield 21, 3) := by decide +kernel
theorem dX0_copyFrom_73 : decode cX0_copyFrom 73 = .ok (.iconst 0, 1) := by decide +kernel
theorem dX0_copyFrom_74 : decode cX0_copyFrom 74 = .ok (.aload_n 0, 1) := by decide +kernel
theorem dX0_copyFrom_75 : decode cX0_copyFrom 75 = .ok (.getfield 21, 3) := by decide +kernel
theorem dX0_copyFrom_78 : decode cX0_copyFrom 78 = .ok (.iconst 0, 1) := by decide +kernel
theorem dX0_copyFrom_79 : decode cX0_copyFrom 79 = .ok (.bipush 84, 2) := by decide +kernel
theorem dX0_copyFrom_81 : decode cX0_copyFrom 81 = .ok (.invokestatic 55, 3) := by decide +kernel
theorem dX0_copyFrom_84 : decode cX0_copyFrom 84 = .ok (.aload_n 1, 1) := by decide +kernel
theorem dX0_copyFrom_85 : decode cX0_copyFrom 85 = .ok (.getfield 24, 3) := by decide +kernel
theorem dX0_copyFrom_88 : decode cX0_copyFrom 88 = .ok (.iconst 0, 1) := by decide +kernel
theorem dX0_copyFrom_89 : decode cX0_copyFrom 89 = .ok (.aload_n 0, 1) := by decide +kernel
theorem dX0_copyFrom_90 : decode cX0_copyFrom 90 = .ok (.getfield 24, 3) := by decide +kernel
theorem dX0_copyFrom_93 : decode cX0_copyFrom 93 = .ok (.iconst 0, 1) := by decide +kernel
theorem dX0_copyFrom_94 : decode cX0_copyFrom 94 = .ok (.bipush 7, 2) := by decide +kernel
theorem dX0_copyFrom_96 : decode cX0_copyFrom 96 = .ok (.invokestatic 55, 3) := by decide +kernel
theorem dX0_copyFrom_99 : decode cX0_copyFrom 99 = .ok (.aload_n 0, 1) := by decide +kernel
theorem dX0_copyFrom_100 : decode cX0_copyFrom 100 = .ok (.aload_n 1, 1) := by decide +kernel
theorem dX0_copyFrom_101 : decode cX0_copyFrom 101 = .ok (.getfield 52, 3) := by decide +kernel
theorem dX0_copyFrom_104 : decode cX0_copyFrom 104 = .ok (.putfield 52, 3) := by decide +kernel
theorem dX0_copyFrom_107 : decode cX0_copyFrom 107 = .ok (.aload_n 1, 1) := by decide +kernel
theorem dX0_copyFrom_108 : decode cX0_copyFrom 108 = .ok (.getfield 30, 3) := by decide +kernel
theorem dX0_copyFrom_111 : decode cX0_copyFrom 111 = .ok (.iconst 0, 1) := by decide +kernel
theorem dX0_copyFrom_112 : decode cX0_copyFrom 112 = .ok (.aload_n 0, 1) := by decide +kernel
theorem dX0_copyFrom_113 : decode cX0_copyFrom 113 = .ok (.getfield 30, 3) := by decide +kernel
theorem dX0_copyFrom_116 : decode cX0_copyFrom 116 = .ok (.iconst 0, 1) := by decide +kernel
theorem dX0_copyFrom_117 : decode cX0_copyFrom 117 = .ok (.bipush 40, 2) := by decide +kernel
theorem dX0_copyFrom_119 : decode cX0_copyFrom 119 = .ok (.invokestatic 55, 3) := by decide +kernel
theorem dX0_copyFrom_122 : decode cX0_copyFrom 122 = .ok (.aload_n 1, 1) := by decide +kernel
theorem dX0_copyFrom_123 : decode cX0_copyFrom 123 = .ok (.getfield 33, 3) := by decide +kernel
theorem dX0_copyFrom_126 : decode cX0_copyFrom 126 = .ok (.iconst 0, 1) := by decide +kernel
theorem dX0_copyFrom_127 : decode cX0_copyFrom 127 = .ok (.aload_n 0, 1) := by decide +kernel
theorem dX0_copyFrom_128 : decode cX0_copyFrom 128 = .ok (.getfield 33, 3) := by decide +kernel
theorem dX0_copyFrom_131 : decode cX0_copyFrom 131 = .ok (.iconst 0, 1) := by decide +kernel
theorem dX0_copyFrom_132 : decode cX0_copyFrom 132 = .ok (.bipush 40, 2) := by decide +kernel
theorem dX0_copyFrom_134 : decode cX0_copyFrom 134 = .ok (.invokestatic 55, 3) := by decide +kernel
theorem dX0_copyFrom_137 : decode cX0_copyFrom 137 = .ok (.aload_n 1, 1) := by decide +kernel
theorem dX0_copyFrom_138 : decode cX0_copyFrom 138 = .ok (.getfield 36, 3) := by decide +kernel
theorem dX0_copyFrom_141 : decode cX0_copyFrom 141 = .ok (.iconst 0, 1) := by decide +kernel
theorem dX0_copyFrom_142 : decode cX0_copyFrom 142 = .ok (.aload_n 0, 1) := by decide +kernel
theorem dX0_copyFrom_143 : decode cX0_copyFrom 143 = .ok (.getfield 36, 3) := by decide +kernel
theorem dX0_copyFrom_146 : decode cX0_copyFrom 146 = .ok (.iconst 0, 1) := by decide +kernel
theorem dX0_copyFrom_147 : decode cX0_copyFrom 147 = .ok (.bipush 40, 2) := by decide +kernel
theorem dX0_copyFrom_149 : decode cX0_copyFrom 149 = .ok (.invokestatic 55, 3) := by decide +kernel
theorem dX0_copyFrom_152 : decode cX0_copyFrom 152 = .ok (.aload_n 1, 1) := by decide +kernel
theorem dX0_copyFrom_153 : decode cX0_copyFrom 153 = .ok (.getfield 39, 3) := by decide +kernel
theorem dX0_copyFrom_156 : decode cX0_copyFrom 156 = .ok (.iconst 0, 1) := by decide +kernel
theorem dX0_copyFrom_157 : decode cX0_copyFrom 157 = .ok (.aload_n 0, 1) := by decide +kernel
theorem dX0_copyFrom_158 : decode cX0_copyFrom 158 = .ok (.getfield 39, 3) := by decide +kernel
theorem dX0_copyFrom_161 : decode cX0_copyFrom 161 = .ok (.iconst 0, 1) := by decide +kernel
theorem dX0_copyFrom_162 : decode cX0_copyFrom 162 = .ok (.bipush 40, 2) := by decide +kernel
theorem dX0_copyFrom_164 : decode cX0_copyFrom 164 = .ok (.invokestatic 55, 3) := by decide +kernel
theorem dX0_copyFrom_167 : decode cX0_copyFrom 167 = .ok (.return_, 1) := by decide +kernel
theorem dX0_forgetStrangers_0 : decode cX0_forgetStrangers 0 = .ok (.iconst 0, 1) := by decide +kernel
theorem dX0_forgetStrangers_1 : decode cX0_forgetStrangers 1 = .ok (.istore_n 1, 1) := by decide +kernel
theorem dX0_forgetStrangers_2 : decode cX0_forgetStrangers 2 = .ok (.iload_n 1, 1) := by decide +kernel
theorem dX0_forgetStrangers_3 : decode cX0_forgetStrangers 3 = .ok (.aload_n 0, 1) := by decide +kernel
theorem dX0_forgetStrangers_4 : decode cX0_forgetStrangers 4 = .ok (.getfield 46, 3) := by decide +kernel
theorem dX0_forgetStrangers_7 : decode cX0_forgetStrangers 7 = .ok (.if_icmp .ge 29, 3) := by decide +kernel
theorem dX0_forgetStrangers_36 : decode cX0_forgetStrangers 36 = .ok (.return_, 1) := by decide +kernel
theorem dX0_exists_0 : decode cX0_exists 0 = .ok (.aload_n 0, 1) := by decide +kernel
theorem dX0_exists_1 : decode cX0_exists 1 = .ok (.getfield 42, 3) := by decide +kernel
theorem dX0_exists_4 : decode cX0_exists 4 = .ok (.ifCond .le 7, 3) := by decide +kernel
theorem dX0_exists_11 : decode cX0_exists 11 = .ok (.iconst 0, 1) := by decide +kernel
theorem dX0_exists_12 : decode cX0_exists 12 = .ok (.ireturn, 1) := by decide +kernel
theorem dX0_isPerson_0 : decode cX0_isPerson 0 = .ok (.lload_n 1, 1) := by decide +kernel
theorem dX0_isPerson_1 : decode cX0_isPerson 1 = .ok (.lconst 0, 1) := by decide +kernel
theorem dX0_isPerson_2 : decode cX0_isPerson 2 = .ok (.lcmp, 1) := by decide +kernel
theorem dX0_isPerson_3 : decode cX0_isPerson 3 = .ok (.ifCond .lt 17, 3) := by decide +kernel
theorem dX0_isPerson_6 : decode cX0_isPerson 6 = .ok (.lload_n 1, 1) := by decide +kernel
theorem dX0_isPerson_7 : decode cX0_isPerson 7 = .ok (.aload_n 0, 1) := by decide +kernel
theorem dX0_isPerson_8 : decode cX0_isPerson 8 = .ok (.getfield 46, 3) := by decide +kernel
theorem dX0_isPerson_11 : decode cX0_isPerson 11 = .ok (.i2l, 1) := by decide +kernel
theorem dX0_isPerson_12 : decode cX0_isPerson 12 = .ok (.lcmp, 1) := by decide +kernel
theorem dX0_isPerson_13 : decode cX0_isPerson 13 = .ok (.ifCond .ge 7, 3) := by decide +kernel
theorem dX0_isPerson_20 : decode cX0_isPerson 20 = .ok (.iconst 0, 1) := by decide +kernel
theorem dX0_isPerson_21 : decode cX0_isPerson 21 = .ok (.ireturn, 1) := by decide +kernel
theorem dX0_isPair_0 : decode cX0_isPair 0 = .ok (.aload_n 0, 1) := by decide +kernel
theorem dX0_isPair_1 : decode cX0_isPair 1 = .ok (.lload_n 1, 1) := by decide +kernel
theorem dX0_isPair_2 : decode cX0_isPair 2 = .ok (.invokevirtual 72, 3) := by decide +kernel
theorem dX0_isPair_5 : decode cX0_isPair 5 = .ok (.ifCond .eq 21, 3) := by decide +kernel
theorem dX0_isPair_26 : decode cX0_isPair 26 = .ok (.iconst 0, 1) := by decide +kernel
theorem dX0_isPair_27 : decode cX0_isPair 27 = .ok (.ireturn, 1) := by decide +kernel
theorem dX0_isHour_0 : decode cX0_isHour 0 = .ok (.lload_n 1, 1) := by decide +kernel
theorem dX0_isHour_1 : decode cX0_isHour 1 = .ok (.lconst 0, 1) := by decide +kernel
theorem dX0_isHour_2 : decode cX0_isHour 2 = .ok (.lcmp, 1) := by decide +kernel
theorem dX0_isHour_3 : decode cX0_isHour 3 = .ok (.ifCond .lt 17, 3) := by decide +kernel
theorem dX0_isHour_6 : decode cX0_isHour 6 = .ok (.lload_n 1, 1) := by decide +kernel
theorem dX0_isHour_7 : decode cX0_isHour 7 = .ok (.aload_n 0, 1) := by decide +kernel
theorem dX0_isHour_8 : decode cX0_isHour 8 = .ok (.invokevirtual 76, 3) := by decide +kernel
theorem dX0_isHour_11 : decode cX0_isHour 11 = .ok (.i2l, 1) := by decide +kernel
theorem dX0_isHour_12 : decode cX0_isHour 12 = .ok (.lcmp, 1) := by decide +kernel
theorem dX0_isHour_13 : decode cX0_isHour 13 = .ok (.ifCond .ge 7, 3) := by decide +kernel
theorem dX0_isHour_20 : decode cX0_isHour 20 = .ok (.iconst 0, 1) := by decide +kernel
theorem dX0_isHour_21 : decode cX0_isHour 21 = .ok (.ireturn, 1) := by decide +kernel
theorem dX0_isPlace_0 : decode cX0_isPlace 0 = .ok (.lload_n 1, 1) := by decide +kernel
theorem dX0_isPlace_1 : decode cX0_isPlace 1 = .ok (.lconst 0, 1) := by decide +kernel
theorem dX0_isPlace_2 : decode cX0_isPlace 2 = .ok (.lcmp, 1) := by decide +kernel
theorem dX0_isPlace_3 : decode cX0_isPlace 3 = .ok (.ifCond .lt 17, 3) := by decide +kernel
theorem dX0_isPlace_6 : decode cX0_isPlace 6 = .ok (.lload_n 1, 1) := by decide +kernel
theorem dX0_isPlace_7 : decode cX0_isPlace 7 = .ok (.aload_n 0, 1) := by decide +kernel
theorem dX0_isPlace_8 : decode cX0_isPlace 8 = .ok (.invokevirtual 80, 3) := by decide +kernel
theorem dX0_isPlace_11 : decode cX0_isPlace 11 = .ok (.i2l, 1) := by decide +kernel
theorem dX0_isPlace_12 : decode cX0_isPlace 12 = .ok (.lcmp, 1) := by decide +kernel
theorem dX0_isPlace_13 : decode cX0_isPlace 13 = .ok (.ifCond .ge 7, 3) := by decide +kernel
theorem dX0_isPlace_20 : decode cX0_isPlace 20 = .ok (.iconst 0, 1) := by decide +kernel
theorem dX0_isPlace_21 : decode cX0_isPlace 21 = .ok (.ireturn, 1) := by decide +kernel
theorem dX0_places_0 : decode cX0_places 0 = .ok (.aload_n 0, 1) := by decide +kernel
theorem dX0_places_1 : decode cX0_places 1 = .ok (.getfield 9, 3) := by decide +kernel
theorem dX0_places_4 : decode cX0_places 4 = .ok (.iconst 0, 1) := by decide +kernel
theorem dX0_places_5 : decode cX0_places 5 = .ok (.iaload, 1) := by decide +kernel
theorem dX0_places_6 : decode cX0_places 6 = .ok (.ireturn, 1) := by decide +kernel
theorem dX0_hours_0 : decode cX0_hours 0 = .ok (.aload_n 0, 1) := by decide +kernel
theorem dX0_hours_1 : decode cX0_hours 1 = .ok (.getfield 9, 3) := by decide +kernel
theorem dX0_hours_4 : decode cX0_hours 4 = .ok (.iconst 1, 1) := by decide +kernel
theorem dX0_hours_5 : decode cX0_hours 5 = .ok (.iaload, 1) := by decide +kernel
theorem dX0_hours_6 : decode cX0_hours 6 = .ok (.ireturn, 1) := by decide +kernel
theorem dX0_look_0 : decode cX0_look 0 = .ok (.iconst 0, 1) := by decide +kernel
theorem dX0_look_1 : decode cX0_look 1 = .ok (.istore_n 1, 1) := by decide +kernel
theorem dX0_look_2 : decode cX0_look 2 = .ok (.iload_n 1, 1) := by decide +kernel
theorem dX0_look_3 : decode cX0_look 3 = .ok (.aload_n 0, 1) := by decide +kernel
theorem dX0_look_4 : decode cX0_look 4 = .ok (.getfield 46, 3) := by decide +kernel
theorem dX0_look_7 : decode cX0_look 7 = .ok (.if_icmp .ge 85, 3) := by decide +kernel
theorem dX0_look_92 : decode cX0_look 92 = .ok (.return_, 1) := by decide +kernel
theorem dX1_init_0 : decode cX1_init 0 = .ok (.aload_n 0, 1) := by decide +kernel
theorem dX1_init_1 : decode cX1_init 1 = .ok (.invokespecial 3, 3) := by decide +kernel
theorem dX1_init_4 : decode cX1_init 4 = .ok (.aload_n 0, 1) := by decide +kernel
theorem dX1_init_5 : decode cX1_init 5 = .ok (.bipush 120, 2) := by decide +kernel
theorem dX1_init_7 : decode cX1_init 7 = .ok (.newarray .boolean, 2) := by decide +kernel
theorem dX1_init_9 : decode cX1_init 9 = .ok (.putfield 9, 3) := by decide +kernel
theorem dX1_init_12 : decode cX1_init 12 = .ok (.aload_n 0, 1) := by decide +kernel
theorem dX1_init_13 : decode cX1_init 13 = .ok (.bipush 120, 2) := by decide +kernel
theorem dX1_init_15 : decode cX1_init 15 = .ok (.newarray .int, 2) := by decide +kernel
theorem dX1_init_17 : decode cX1_init 17 = .ok (.putfield 15, 3) := by decide +kernel
theorem dX1_init_20 : decode cX1_init 20 = .ok (.aload_n 0, 1) := by decide +kernel
theorem dX1_init_21 : decode cX1_init 21 = .ok (.bipush 120, 2) := by decide +kernel
theorem dX1_init_23 : decode cX1_init 23 = .ok (.newarray .int, 2) := by decide +kernel
theorem dX1_init_25 : decode cX1_init 25 = .ok (.putfield 19, 3) := by decide +kernel
theorem dX1_init_28 : decode cX1_init 28 = .ok (.aload_n 0, 1) := by decide +kernel
theorem dX1_init_29 : decode cX1_init 29 = .ok (.bipush 120, 2) := by decide +kernel
theorem dX1_init_31 : decode cX1_init 31 = .ok (.newarray .int, 2) := by decide +kernel
theorem dX1_init_33 : decode cX1_init 33 = .ok (.putfield 22, 3) := by decide +kernel
theorem dX1_init_36 : decode cX1_init 36 = .ok (.return_, 1) := by decide +kernel
theorem dX2_init_0 : decode cX2_init 0 = .ok (.aload_n 0, 1) := by decide +kernel
theorem dX2_init_1 : decode cX2_init 1 = .ok (.invokespecial 3, 3) := by decide +kernel
theorem dX2_init_4 : decode cX2_init 4 = .ok (.aload_n 0, 1) := by decide +kernel
theorem dX2_init_5 : decode cX2_init 5 = .ok (.bipush 7, 2) := by decide +kernel
theorem dX2_init_7 : decode cX2_init 7 = .ok (.newarray .int, 2) := by decide +kernel
theorem dX2_init_9 : decode cX2_init 9 = .ok (.putfield 9, 3) := by decide +kernel
theorem dX2_init_12 : decode cX2_init 12 = .ok (.aload_n 0, 1) := by decide +kernel
theorem dX2_init_13 : decode cX2_init 13 = .ok (.bipush 7, 2) := by decide +kernel
theorem dX2_init_15 : decode cX2_init 15 = .ok (.newarray .int, 2) := by decide +kernel
theorem dX2_init_17 : decode cX2_init 17 = .ok (.putfield 15, 3) := by decide +kernel
theorem dX2_init_20 : decode cX2_init 20 = .ok (.aload_n 0, 1) := by decide +kernel
theorem dX2_init_21 : decode cX2_init 21 = .ok (.bipush 7, 2) := by decide +kernel
theorem dX2_init_23 : decode cX2_init 23 = .ok (.newarray .int, 2) := by decide +kernel
theorem dX2_init_25 : decode cX2_init 25 = .ok (.putfield 18, 3) := by decide +kernel
theorem dX2_init_28 : decode cX2_init 28 = .ok (.aload_n 0, 1) := by decide +kernel
theorem dX2_init_29 : decode cX2_init 29 = .ok (.bipush 7, 2) := by decide +kernel
theorem dX2_init_31 : decode cX2_init 31 = .ok (.newarray .int, 2) := by decide +kernel
theorem dX2_init_33 : decode cX2_init 33 = .ok (.putfield 21, 3) := by decide +kernel
theorem dX2_init_36 : decode cX2_init 36 = .ok (.aload_n 0, 1) := by decide +kernel
theorem dX2_init_37 : decode cX2_init 37 = .ok (.bipush 49, 2) := by decide +kernel
theorem dX2_init_39 : decode cX2_init 39 = .ok (.newarray .int, 2) := by decide +kernel
theorem dX2_init_41 : decode cX2_init 41 = .ok (.putfield 24, 3) := by decide +kernel
theorem dX2_init_44 : decode cX2_init 44 = .ok (.aload_n 0, 1) := by decide +kernel
theorem dX2_init_45 : decode cX2_init 45 = .ok (.bipush 7, 2) := by decide +kernel
theorem dX2_init_47 : decode cX2_init 47 = .ok (.newarray .int, 2) := by decide +kernel
theorem dX2_init_49 : decode cX2_init 49 = .ok (.putfield 27, 3) := by decide +kernel
theorem dX2_init_52 : decode cX2_init 52 = .ok (.aload_n 0, 1) := by decide +kernel
theorem dX2_init_53 : decode cX2_init 53 = .ok (.bipush 7, 2) := by decide +kernel
theorem dX2_init_55 : decode cX2_init 55 = .ok (.newarray .int, 2) := by decide +kernel
theorem dX2_init_57 : decode cX2_init 57 = .ok (.putfield 30, 3) := by decide +kernel
theorem dX2_init_60 : decode cX2_init 60 = .ok (.aload_n 0, 1) := by decide +kernel
theorem dX2_init_61 : decode cX2_init 61 = .ok (.bipush 7, 2) := by decide +kernel
theorem dX2_init_63 : decode cX2_init 63 = .ok (.newarray .int, 2) := by decide +kernel
theorem dX2_init_65 : decode cX2_init 65 = .ok (.putfield 33, 3) := by decide +kernel
theorem dX2_init_68 : decode cX2_init 68 = .ok (.return_, 1) := by decide +kernel
theorem dX3_init_0 : decode cX3_init 0 = .ok (.aload_n 0, 1) := by decide +kernel
theorem dX3_init_1 : decode cX3_init 1 = .ok (.invokespecial 1, 3) := by decide +kernel
theorem dX3_init_4 : decode cX3_init 4 = .ok (.aload_n 0, 1) := by decide +kernel
theorem dX3_init_5 : decode cX3_init 5 = .ok (.iconst 4, 1) := by decide +kernel
theorem dX3_init_6 : decode cX3_init 6 = .ok (.newarray .boolean, 2) := by decide +kernel
theorem dX3_init_8 : decode cX3_init 8 = .ok (.putfield 9, 3) := by decide +kernel
theorem dX3_init_11 : decode cX3_init 11 = .ok (.aload_n 0, 1) := by decide +kernel
theorem dX3_init_12 : decode cX3_init 12 = .ok (.iconst 4, 1) := by decide +kernel
theorem dX3_init_13 : decode cX3_init 13 = .ok (.newarray .int, 2) := by decide +kernel
theorem dX3_init_15 : decode cX3_init 15 = .ok (.putfield 13, 3) := by decide +kernel
theorem dX3_init_18 : decode cX3_init 18 = .ok (.aload_n 0, 1) := by decide +kernel
theorem dX3_init_19 : decode cX3_init 19 = .ok (.iconst 4, 1) := by decide +kernel
theorem dX3_init_20 : decode cX3_init 20 = .ok (.newarray .int, 2) := by decide +kernel
theorem dX3_init_22 : decode cX3_init 22 = .ok (.putfield 17, 3) := by decide +kernel
theorem dX3_init_25 : decode cX3_init 25 = .ok (.aload_n 0, 1) := by decide +kernel
theorem dX3_init_26 : decode cX3_init 26 = .ok (.sipush 240, 3) := by decide +kernel
theorem dX3_init_29 : decode cX3_init 29 = .ok (.newarray .long, 2) := by decide +kernel
theorem dX3_init_31 : decode cX3_init 31 = .ok (.putfield 20, 3) := by decide +kernel
theorem dX3_init_34 : decode cX3_init 34 = .ok (.return_, 1) := by decide +kernel
theorem dX3_isSlot_0 : decode cX3_isSlot 0 = .ok (.iload_n 1, 1) := by decide +kernel
theorem dX3_isSlot_1 : decode cX3_isSlot 1 = .ok (.ifCond .lt 12, 3) := by decide +kernel
theorem dX3_isSlot_4 : decode cX3_isSlot 4 = .ok (.iload_n 1, 1) := by decide +kernel
theorem dX3_isSlot_5 : decode cX3_isSlot 5 = .ok (.iconst 4, 1) := by decide +kernel
theorem dX3_isSlot_6 : decode cX3_isSlot 6 = .ok (.if_icmp .ge 7, 3) := by decide +kernel
theorem dX3_isSlot_9 : decode cX3_isSlot 9 = .ok (.iconst 1, 1) := by decide +kernel
theorem dX3_isSlot_10 : decode cX3_isSlot 10 = .ok (.goto 4, 3) := by decide +kernel
theorem dX3_isSlot_13 : decode cX3_isSlot 13 = .ok (.iconst 0, 1) := by decide +kernel
theorem dX3_isSlot_14 : decode cX3_isSlot 14 = .ok (.ireturn, 1) := by decide +kernel
theorem dX3_hasRow_0 : decode cX3_hasRow 0 = .ok (.aload_n 0, 1) := by decide +kernel
theorem dX3_hasRow_1 : decode cX3_hasRow 1 = .ok (.getfield 9, 3) := by decide +kernel
theorem dX3_hasRow_4 : decode cX3_hasRow 4 = .ok (.iload_n 1, 1) := by decide +kernel
theorem dX3_hasRow_5 : decode cX3_hasRow 5 = .ok (.baload, 1) := by decide +kernel
theorem dX3_hasRow_6 : decode cX3_hasRow 6 = .ok (.ireturn, 1) := by decide +kernel
theorem dX3_manyRows_0 : decode cX3_manyRows 0 = .ok (.iconst 0, 1) := by decide +kernel
theorem dX3_manyRows_1 : decode cX3_manyRows 1 = .ok (.istore_n 1, 1) := by decide +kernel
theorem dX3_manyRows_2 : decode cX3_manyRows 2 = .ok (.iconst 0, 1) := by decide +kernel
theorem dX3_manyRows_3 : decode cX3_manyRows 3 = .ok (.istore_n 2, 1) := by decide +kernel
theorem dX3_manyRows_4 : decode cX3_manyRows 4 = .ok (.iload_n 2, 1) := by decide +kernel
theorem dX3_manyRows_5 : decode cX3_manyRows 5 = .ok (.iconst 4, 1) := by decide +kernel
theorem dX3_manyRows_6 : decode cX3_manyRows 6 = .ok (.if_icmp .ge 21, 3) := by decide +kernel
theorem dX3_manyRows_9 : decode cX3_manyRows 9 = .ok (.aload_n 0, 1) := by decide +kernel
theorem dX3_manyRows_10 : decode cX3_manyRows 10 = .ok (.getfield 9, 3) := by decide +kernel
theorem dX3_manyRows_13 : decode cX3_manyRows 13 = .ok (.iload_n 2, 1) := by decide +kernel
theorem dX3_manyRows_14 : decode cX3_manyRows 14 = .ok (.baload, 1) := by decide +kernel
theorem dX3_manyRows_15 : decode cX3_manyRows 15 = .ok (.ifCond .eq 6, 3) := by decide +kernel
theorem dX3_manyRows_21 : decode cX3_manyRows 21 = .ok (.iinc 2 1, 3) := by decide +kernel
theorem dX3_manyRows_24 : decode cX3_manyRows 24 = .ok (.goto (-20), 3) := by decide +kernel
theorem dX3_manyRows_27 : decode cX3_manyRows 27 = .ok (.iload_n 1, 1) := by decide +kernel
theorem dX3_manyRows_28 : decode cX3_manyRows 28 = .ok (.ireturn, 1) := by decide +kernel
theorem dX3_lay_0 : decode cX3_lay 0 = .ok (.aload_n 0, 1) := by decide +kernel
theorem dX3_lay_1 : decode cX3_lay 1 = .ok (.getfield 9, 3) := by decide +kernel
theorem dX3_lay_4 : decode cX3_lay 4 = .ok (.iload_n 1, 1) := by decide +kernel
theorem dX3_lay_5 : decode cX3_lay 5 = .ok (.iconst 1, 1) := by decide +kernel
theorem dX3_lay_6 : decode cX3_lay 6 = .ok (.bastore, 1) := by decide +kernel
theorem dX3_lay_7 : decode cX3_lay 7 = .ok (.aload_n 0, 1) := by decide +kernel
theorem dX3_lay_8 : decode cX3_lay 8 = .ok (.getfield 13, 3) := by decide +kernel
theorem dX3_lay_11 : decode cX3_lay 11 = .ok (.iload_n 1, 1) := by decide +kernel
theorem dX3_lay_12 : decode cX3_lay 12 = .ok (.iload_n 2, 1) := by decide +kernel
theorem dX3_lay_13 : decode cX3_lay 13 = .ok (.iastore, 1) := by decide +kernel
theorem dX3_lay_14 : decode cX3_lay 14 = .ok (.aload_n 0, 1) := by decide +kernel
theorem dX3_lay_15 : decode cX3_lay 15 = .ok (.getfield 17, 3) := by decide +kernel
theorem dX3_lay_18 : decode cX3_lay 18 = .ok (.iload_n 1, 1) := by decide +kernel
theorem dX3_lay_19 : decode cX3_lay 19 = .ok (.iload_n 3, 1) := by decide +kernel
theorem dX3_lay_20 : decode cX3_lay 20 = .ok (.iastore, 1) := by decide +kernel
theorem dX3_lay_21 : decode cX3_lay 21 = .ok (.iconst 0, 1) := by decide +kernel
theorem dX3_lay_22 : decode cX3_lay 22 = .ok (.istore 4, 2) := by decide +kernel
theorem dX3_lay_24 : decode cX3_lay 24 = .ok (.iload 4, 2) := by decide +kernel
theorem dX3_lay_26 : decode cX3_lay 26 = .ok (.iload_n 3, 1) := by decide +kernel
theorem dX3_lay_27 : decode cX3_lay 27 = .ok (.if_icmp .ge 22, 3) := by decide +kernel
theorem dX3_lay_30 : decode cX3_lay 30 = .ok (.aload_n 0, 1) := by decide +kernel
theorem dX3_lay_31 : decode cX3_lay 31 = .ok (.getfield 20, 3) := by decide +kernel
theorem dX3_lay_34 : decode cX3_lay 34 = .ok (.iload_n 1, 1) := by decide +kernel
theorem dX3_lay_35 : decode cX3_lay 35 = .ok (.bipush 60, 2) := by decide +kernel
theorem dX3_lay_37 : decode cX3_lay 37 = .ok (.imul, 1) := by decide +kernel
theorem dX3_lay_38 : decode cX3_lay 38 = .ok (.iload 4, 2) := by decide +kernel
theorem dX3_lay_40 : decode cX3_lay 40 = .ok (.iadd, 1) := by decide +kernel
theorem dX3_lay_41 : decode cX3_lay 41 = .ok (.lconst 0, 1) := by decide +kernel
theorem dX3_lay_42 : decode cX3_lay 42 = .ok (.lastore, 1) := by decide +kernel
theorem dX3_lay_43 : decode cX3_lay 43 = .ok (.iinc 4 1, 3) := by decide +kernel
theorem dX3_lay_46 : decode cX3_lay 46 = .ok (.goto (-22), 3) := by decide +kernel
theorem dX3_lay_49 : decode cX3_lay 49 = .ok (.return_, 1) := by decide +kernel
theorem dX4_init_0 : decode cX4_init 0 = .ok (.aload_n 0, 1) := by decide +kernel
theorem dX4_init_1 : decode cX4_init 1 = .ok (.invokespecial 3, 3) := by decide +kernel
theorem dX4_init_4 : decode cX4_init 4 = .ok (.aload_n 0, 1) := by decide +kernel
theorem dX4_init_5 : decode cX4_init 5 = .ok (.sipush 1200, 3) := by decide +kernel
theorem dX4_init_8 : decode cX4_init 8 = .ok (.newarray .byte, 2) := by decide +kernel
theorem dX4_init_10 : decode cX4_init 10 = .ok (.putfield 11, 3) := by decide +kernel
theorem dX4_init_13 : decode cX4_init 13 = .ok (.aload_n 0, 1) := by decide +kernel
theorem dX4_init_14 : decode cX4_init 14 = .ok (.iconst (-1), 1) := by decide +kernel
theorem dX4_init_15 : decode cX4_init 15 = .ok (.putfield 15, 3) := by decide +kernel
theorem dX4_init_18 : decode cX4_init 18 = .ok (.return_, 1) := by decide +kernel
theorem dX4_hasRoom_0 : decode cX4_hasRoom 0 = .ok (.aload_n 0, 1) := by decide +kernel
theorem dX4_hasRoom_1 : decode cX4_hasRoom 1 = .ok (.getfield 19, 3) := by decide +kernel
theorem dX4_hasRoom_4 : decode cX4_hasRoom 4 = .ok (.sipush 1180, 3) := by decide +kernel
theorem dX4_hasRoom_7 : decode cX4_hasRoom 7 = .ok (.if_icmp .gt 7, 3) := by decide +kernel
theorem dX4_hasRoom_10 : decode cX4_hasRoom 10 = .ok (.iconst 1, 1) := by decide +kernel
theorem dX4_hasRoom_11 : decode cX4_hasRoom 11 = .ok (.goto 4, 3) := by decide +kernel
theorem dX4_hasRoom_15 : decode cX4_hasRoom 15 = .ok (.ireturn, 1) := by decide +kernel
theorem dX4_append_0 : decode cX4_append 0 = .ok (.bipush 24, 2) := by decide +kernel
theorem dX4_append_2 : decode cX4_append 2 = .ok (.istore_n 2, 1) := by decide +kernel
theorem dX4_append_3 : decode cX4_append 3 = .ok (.iload_n 2, 1) := by decide +kernel
theorem dX4_append_4 : decode cX4_append 4 = .ok (.ifCond .lt 42, 3) := by decide +kernel
theorem dX4_append_7 : decode cX4_append 7 = .ok (.aload_n 0, 1) := by decide +kernel
theorem dX4_append_8 : decode cX4_append 8 = .ok (.getfield 19, 3) := by decide +kernel
theorem dX4_append_11 : decode cX4_append 11 = .ok (.sipush 1200, 3) := by decide +kernel
theorem dX4_append_14 : decode cX4_append 14 = .ok (.if_icmp .ge 32, 3) := by decide +kernel
theorem dX4_append_17 : decode cX4_append 17 = .ok (.aload_n 0, 1) := by decide +kernel
theorem dX4_append_18 : decode cX4_append 18 = .ok (.getfield 11, 3) := by decide +kernel
theorem dX4_append_21 : decode cX4_append 21 = .ok (.aload_n 0, 1) := by decide +kernel
theorem dX4_append_22 : decode cX4_append 22 = .ok (.getfield 19, 3) := by decide +kernel
theorem dX4_append_25 : decode cX4_append 25 = .ok (.iload_n 1, 1) := by decide +kernel
theorem dX4_append_26 : decode cX4_append 26 = .ok (.iload_n 2, 1) := by decide +kernel
theorem dX4_append_27 : decode cX4_append 27 = .ok (.ishr, 1) := by decide +kernel
theorem dX4_append_28 : decode cX4_append 28 = .ok (.i2b, 1) := by decide +kernel
theorem dX4_append_29 : decode cX4_append 29 = .ok (.bastore, 1) := by decide +kernel
theorem dX4_append_30 : decode cX4_append 30 = .ok (.aload_n 0, 1) := by decide +kernel
theorem dX4_append_31 : decode cX4_append 31 = .ok (.dup, 1) := by decide +kernel
theorem dX4_append_32 : decode cX4_append 32 = .ok (.getfield 19, 3) := by decide +kernel
theorem dX4_append_35 : decode cX4_append 35 = .ok (.iconst 1, 1) := by decide +kernel
theorem dX4_append_36 : decode cX4_append 36 = .ok (.iadd, 1) := by decide +kernel
theorem dX4_append_37 : decode cX4_append 37 = .ok (.putfield 19, 3) := by decide +kernel
theorem dX4_append_40 : decode cX4_append 40 = .ok (.iinc 2 (-8), 3) := by decide +kernel
theorem dX4_append_43 : decode cX4_append 43 = .ok (.goto (-40), 3) := by decide +kernel
theorem dX4_append_46 : decode cX4_append 46 = .ok (.return_, 1) := by decide +kernel
theorem dX4_readInto_0 : decode cX4_readInto 0 = .ok (.aload_n 1, 1) := by decide +kernel
theorem dX4_readInto_1 : decode cX4_readInto 1 = .ok (.invokevirtual 22, 3) := by decide +kernel
theorem dX4_readInto_4 : decode cX4_readInto 4 = .ok (.aload_n 0, 1) := by decide +kernel
theorem dX4_readInto_5 : decode cX4_readInto 5 = .ok (.iconst 0, 1) := by decide +kernel
theorem dX4_readInto_6 : decode cX4_readInto 6 = .ok (.putfield 27, 3) := by decide +kernel
theorem dX4_readInto_9 : decode cX4_readInto 9 = .ok (.aload_n 0, 1) := by decide +kernel
theorem dX4_readInto_10 : decode cX4_readInto 10 = .ok (.iconst (-1), 1) := by decide +kernel
theorem dX4_readInto_11 : decode cX4_readInto 11 = .ok (.putfield 15, 3) := by decide +kernel
theorem dX4_readInto_14 : decode cX4_readInto 14 = .ok (.aload_n 0, 1) := by decide +kernel
theorem dX4_readInto_15 : decode cX4_readInto 15 = .ok (.iconst 0, 1) := by decide +kernel
theorem dX4_readInto_16 : decode cX4_readInto 16 = .ok (.putfield 30, 3) := by decide +kernel
theorem dX4_readInto_19 : decode cX4_readInto 19 = .ok (.aload_n 0, 1) := by decide +kernel
theorem dX4_readInto_20 : decode cX4_readInto 20 = .ok (.invokevirtual 33, 3) := by decide +kernel
theorem dX4_readInto_23 : decode cX4_readInto 23 = .ok (.iconst 0, 1) := by decide +kernel
theorem dX4_readInto_24 : decode cX4_readInto 24 = .ok (.istore_n 2, 1) := by decide +kernel
theorem dX4_readInto_25 : decode cX4_readInto 25 = .ok (.iload_n 2, 1) := by decide +kernel
theorem dX4_readInto_26 : decode cX4_readInto 26 = .ok (.sipush 1200, 3) := by decide +kernel
theorem dX4_readInto_29 : decode cX4_readInto 29 = .ok (.if_icmp .ge 43, 3) := by decide +kernel
theorem dX4_readInto_32 : decode cX4_readInto 32 = .ok (.aload_n 0, 1) := by decide +kernel
theorem dX4_readInto_33 : decode cX4_readInto 33 = .ok (.getfield 36, 3) := by decide +kernel
theorem dX4_readInto_36 : decode cX4_readInto 36 = .ok (.ifCond .eq 36, 3) := by decide +kernel
theorem dX4_readInto_72 : decode cX4_readInto 72 = .ok (.aload_n 1, 1) := by decide +kernel
theorem dX4_readInto_73 : decode cX4_readInto 73 = .ok (.invokevirtual 50, 3) := by decide +kernel
theorem dX4_readInto_76 : decode cX4_readInto 76 = .ok (.iconst 1, 1) := by decide +kernel
theorem dX4_readInto_77 : decode cX4_readInto 77 = .ok (.ireturn, 1) := by decide +kernel
theorem dX4_toNextToken_0 : decode cX4_toNextToken 0 = .ok (.aload_n 0, 1) := by decide +kernel
theorem dX4_toNextToken_1 : decode cX4_toNextToken 1 = .ok (.aload_n 0, 1) := by decide +kernel
theorem dX4_toNextToken_2 : decode cX4_toNextToken 2 = .ok (.getfield 30, 3) := by decide +kernel
theorem dX4_toNextToken_5 : decode cX4_toNextToken 5 = .ok (.putfield 147, 3) := by decide +kernel
theorem dX4_toNextToken_8 : decode cX4_toNextToken 8 = .ok (.aload_n 0, 1) := by decide +kernel
theorem dX4_toNextToken_9 : decode cX4_toNextToken 9 = .ok (.getfield 147, 3) := by decide +kernel
theorem dX4_toNextToken_12 : decode cX4_toNextToken 12 = .ok (.aload_n 0, 1) := by decide +kernel
theorem dX4_toNextToken_13 : decode cX4_toNextToken 13 = .ok (.getfield 19, 3) := by decide +kernel
theorem dX4_toNextToken_16 : decode cX4_toNextToken 16 = .ok (.if_icmp .ge 32, 3) := by decide +kernel
theorem dX4_toNextToken_48 : decode cX4_toNextToken 48 = .ok (.aload_n 0, 1) := by decide +kernel
theorem dX4_toNextToken_49 : decode cX4_toNextToken 49 = .ok (.aload_n 0, 1) := by decide +kernel
theorem dX4_toNextToken_50 : decode cX4_toNextToken 50 = .ok (.getfield 147, 3) := by decide +kernel
theorem dX4_toNextToken_53 : decode cX4_toNextToken 53 = .ok (.putfield 30, 3) := by decide +kernel
theorem dX4_toNextToken_56 : decode cX4_toNextToken 56 = .ok (.aload_n 0, 1) := by decide +kernel
theorem dX4_toNextToken_57 : decode cX4_toNextToken 57 = .ok (.getfield 147, 3) := by decide +kernel
theorem dX4_toNextToken_60 : decode cX4_toNextToken 60 = .ok (.aload_n 0, 1) := by decide +kernel
theorem dX4_toNextToken_61 : decode cX4_toNextToken 61 = .ok (.getfield 19, 3) := by decide +kernel
theorem dX4_toNextToken_64 : decode cX4_toNextToken 64 = .ok (.if_icmp .lt 9, 3) := by decide +kernel
theorem dX4_toNextToken_67 : decode cX4_toNextToken 67 = .ok (.aload_n 0, 1) := by decide +kernel
theorem dX4_toNextToken_68 : decode cX4_toNextToken 68 = .ok (.iconst 0, 1) := by decide +kernel
theorem dX4_toNextToken_69 : decode cX4_toNextToken 69 = .ok (.putfield 36, 3) := by decide +kernel
theorem dX4_toNextToken_72 : decode cX4_toNextToken 72 = .ok (.return_, 1) := by decide +kernel
theorem dX5_init_0 : decode cX5_init 0 = .ok (.aload_n 0, 1) := by decide +kernel
theorem dX5_init_1 : decode cX5_init 1 = .ok (.invokespecial 1, 3) := by decide +kernel
theorem dX5_init_4 : decode cX5_init 4 = .ok (.aload_n 0, 1) := by decide +kernel
theorem dX5_init_5 : decode cX5_init 5 = .ok (.new 7, 3) := by decide +kernel
theorem dX5_init_8 : decode cX5_init 8 = .ok (.dup, 1) := by decide +kernel
theorem dX5_init_9 : decode cX5_init 9 = .ok (.invokespecial 9, 3) := by decide +kernel
theorem dX5_init_12 : decode cX5_init 12 = .ok (.putfield 10, 3) := by decide +kernel
theorem dX5_init_15 : decode cX5_init 15 = .ok (.aload_n 0, 1) := by decide +kernel
theorem dX5_init_16 : decode cX5_init 16 = .ok (.new 16, 3) := by decide +kernel
theorem dX5_init_19 : decode cX5_init 19 = .ok (.dup, 1) := by decide +kernel
theorem dX5_init_20 : decode cX5_init 20 = .ok (.invokespecial 18, 3) := by decide +kernel
theorem dX5_init_23 : decode cX5_init 23 = .ok (.putfield 19, 3) := by decide +kernel
theorem dX5_init_26 : decode cX5_init 26 = .ok (.aload_n 0, 1) := by decide +kernel
theorem dX5_init_27 : decode cX5_init 27 = .ok (.new 23, 3) := by decide +kernel
theorem dX5_init_30 : decode cX5_init 30 = .ok (.dup, 1) := by decide +kernel
theorem dX5_init_31 : decode cX5_init 31 = .ok (.invokespecial 25, 3) := by decide +kernel
theorem dX5_init_34 : decode cX5_init 34 = .ok (.putfield 26, 3) := by decide +kernel
theorem dX5_init_37 : decode cX5_init 37 = .ok (.aload_n 0, 1) := by decide +kernel
theorem dX5_init_38 : decode cX5_init 38 = .ok (.new 30, 3) := by decide +kernel
theorem dX5_init_41 : decode cX5_init 41 = .ok (.dup, 1) := by decide +kernel
theorem dX5_init_42 : decode cX5_init 42 = .ok (.invokespecial 32, 3) := by decide +kernel
theorem dX5_init_45 : decode cX5_init 45 = .ok (.putfield 33, 3) := by decide +kernel
theorem dX5_init_48 : decode cX5_init 48 = .ok (.aload_n 0, 1) := by decide +kernel
theorem dX5_init_49 : decode cX5_init 49 = .ok (.iconst 3, 1) := by decide +kernel
theorem dX5_init_50 : decode cX5_init 50 = .ok (.anewarray 37, 3) := by decide +kernel
theorem dX5_init_53 : decode cX5_init 53 = .ok (.putfield 39, 3) := by decide +kernel
theorem dX5_init_56 : decode cX5_init 56 = .ok (.aload_n 0, 1) := by decide +kernel
theorem dX5_init_57 : decode cX5_init 57 = .ok (.iconst 3, 1) := by decide +kernel
theorem dX5_init_58 : decode cX5_init 58 = .ok (.newarray .boolean, 2) := by decide +kernel
theorem dX5_init_60 : decode cX5_init 60 = .ok (.putfield 43, 3) := by decide +kernel
theorem dX5_init_63 : decode cX5_init 63 = .ok (.aload_n 0, 1) := by decide +kernel
theorem dX5_init_64 : decode cX5_init 64 = .ok (.new 37, 3) := by decide +kernel
theorem dX5_init_67 : decode cX5_init 67 = .ok (.dup, 1) := by decide +kernel
theorem dX5_init_68 : decode cX5_init 68 = .ok (.invokespecial 47, 3) := by decide +kernel
theorem dX5_init_71 : decode cX5_init 71 = .ok (.putfield 48, 3) := by decide +kernel
theorem dX5_init_74 : decode cX5_init 74 = .ok (.aload_n 0, 1) := by decide +kernel
theorem dX5_init_75 : decode cX5_init 75 = .ok (.new 37, 3) := by decide +kernel
theorem dX5_init_78 : decode cX5_init 78 = .ok (.dup, 1) := by decide +kernel
theorem dX5_init_79 : decode cX5_init 79 = .ok (.invokespecial 47, 3) := by decide +kernel
theorem dX5_init_82 : decode cX5_init 82 = .ok (.putfield 52, 3) := by decide +kernel
theorem dX5_init_85 : decode cX5_init 85 = .ok (.iconst 0, 1) := by decide +kernel
theorem dX5_init_86 : decode cX5_init 86 = .ok (.istore_n 1, 1) := by decide +kernel
theorem dX5_init_87 : decode cX5_init 87 = .ok (.iload_n 1, 1) := by decide +kernel
theorem dX5_init_88 : decode cX5_init 88 = .ok (.iconst 3, 1) := by decide +kernel
theorem dX5_init_89 : decode cX5_init 89 = .ok (.if_icmp .ge 22, 3) := by decide +kernel
theorem dX5_init_92 : decode cX5_init 92 = .ok (.aload_n 0, 1) := by decide +kernel
theorem dX5_init_93 : decode cX5_init 93 = .ok (.getfield 39, 3) := by decide +kernel
theorem dX5_init_96 : decode cX5_init 96 = .ok (.iload_n 1, 1) := by decide +kernel
theorem dX5_init_97 : decode cX5_init 97 = .ok (.new 37, 3) := by decide +kernel
theorem dX5_init_100 : decode cX5_init 100 = .ok (.dup, 1) := by decide +kernel
theorem dX5_init_101 : decode cX5_init 101 = .ok (.invokespecial 47, 3) := by decide +kernel
theorem dX5_init_104 : decode cX5_init 104 = .ok (.aastore, 1) := by decide +kernel
theorem dX5_init_105 : decode cX5_init 105 = .ok (.iinc 1 1, 3) := by decide +kernel
theorem dX5_init_108 : decode cX5_init 108 = .ok (.goto (-21), 3) := by decide +kernel
theorem dX5_init_111 : decode cX5_init 111 = .ok (.return_, 1) := by decide +kernel
theorem dX5_feed_0 : decode cX5_feed 0 = .ok (.aload_n 0, 1) := by decide +kernel
theorem dX5_feed_1 : decode cX5_feed 1 = .ok (.getfield 10, 3) := by decide +kernel
theorem dX5_feed_4 : decode cX5_feed 4 = .ok (.invokevirtual 55, 3) := by decide +kernel
theorem dX5_feed_7 : decode cX5_feed 7 = .ok (.ifCond .ne 5, 3) := by decide +kernel
theorem dX5_feed_12 : decode cX5_feed 12 = .ok (.aload_n 0, 1) := by decide +kernel
theorem dX5_feed_13 : decode cX5_feed 13 = .ok (.getfield 10, 3) := by decide +kernel
theorem dX5_feed_16 : decode cX5_feed 16 = .ok (.iload_n 1, 1) := by decide +kernel
theorem dX5_feed_17 : decode cX5_feed 17 = .ok (.invokevirtual 59, 3) := by decide +kernel
theorem dX5_feed_20 : decode cX5_feed 20 = .ok (.aload_n 0, 1) := by decide +kernel
theorem dX5_feed_21 : decode cX5_feed 21 = .ok (.getfield 10, 3) := by decide +kernel
theorem dX5_feed_24 : decode cX5_feed 24 = .ok (.iload_n 2, 1) := by decide +kernel
theorem dX5_feed_25 : decode cX5_feed 25 = .ok (.invokevirtual 59, 3) := by decide +kernel
theorem dX5_feed_28 : decode cX5_feed 28 = .ok (.aload_n 0, 1) := by decide +kernel
theorem dX5_feed_29 : decode cX5_feed 29 = .ok (.getfield 10, 3) := by decide +kernel
theorem dX5_feed_32 : decode cX5_feed 32 = .ok (.iload_n 3, 1) := by decide +kernel
theorem dX5_feed_33 : decode cX5_feed 33 = .ok (.invokevirtual 59, 3) := by decide +kernel
theorem dX5_feed_36 : decode cX5_feed 36 = .ok (.aload_n 0, 1) := by decide +kernel
theorem dX5_feed_37 : decode cX5_feed 37 = .ok (.getfield 10, 3) := by decide +kernel
theorem dX5_feed_40 : decode cX5_feed 40 = .ok (.iload 4, 2) := by decide +kernel
theorem dX5_feed_42 : decode cX5_feed 42 = .ok (.invokevirtual 59, 3) := by decide +kernel
theorem dX5_feed_45 : decode cX5_feed 45 = .ok (.aload_n 0, 1) := by decide +kernel
theorem dX5_feed_46 : decode cX5_feed 46 = .ok (.getfield 10, 3) := by decide +kernel
theorem dX5_feed_49 : decode cX5_feed 49 = .ok (.iload 5, 2) := by decide +kernel
theorem dX5_feed_51 : decode cX5_feed 51 = .ok (.invokevirtual 59, 3) := by decide +kernel
theorem dX5_feed_54 : decode cX5_feed 54 = .ok (.aload_n 0, 1) := by decide +kernel
theorem dX5_feed_55 : decode cX5_feed 55 = .ok (.getfield 10, 3) := by decide +kernel
theorem dX5_feed_58 : decode cX5_feed 58 = .ok (.getfield 63, 3) := by decide +kernel
theorem dX5_feed_61 : decode cX5_feed 61 = .ok (.ireturn, 1) := by decide +kernel
theorem dX5_end_0 : decode cX5_end 0 = .ok (.iload_n 1, 1) := by decide +kernel
theorem dX5_end_1 : decode cX5_end 1 = .ok (.ifCond .lt 14, 3) := by decide +kernel
theorem dX5_end_4 : decode cX5_end 4 = .ok (.iload_n 1, 1) := by decide +kernel
theorem dX5_end_5 : decode cX5_end 5 = .ok (.aload_n 0, 1) := by decide +kernel
theorem dX5_end_6 : decode cX5_end 6 = .ok (.getfield 10, 3) := by decide +kernel
theorem dX5_end_9 : decode cX5_end 9 = .ok (.getfield 63, 3) := by decide +kernel
theorem dX5_end_12 : decode cX5_end 12 = .ok (.if_icmp .le 5, 3) := by decide +kernel
theorem dX5_end_15 : decode cX5_end 15 = .ok (.iconst (-1), 1) := by decide +kernel
theorem dX5_end_16 : decode cX5_end 16 = .ok (.ireturn, 1) := by decide +kernel
theorem dX5_end_17 : decode cX5_end 17 = .ok (.aload_n 0, 1) := by decide +kernel
theorem dX5_end_18 : decode cX5_end 18 = .ok (.getfield 10, 3) := by decide +kernel
theorem dX5_end_21 : decode cX5_end 21 = .ok (.iload_n 1, 1) := by decide +kernel
theorem dX5_end_22 : decode cX5_end 22 = .ok (.putfield 63, 3) := by decide +kernel
theorem dX5_end_25 : decode cX5_end 25 = .ok (.iload_n 1, 1) := by decide +kernel
theorem dX5_end_26 : decode cX5_end 26 = .ok (.ireturn, 1) := by decide +kernel
theorem dX5_city_0 : decode cX5_city 0 = .ok (.aload_n 0, 1) := by decide +kernel
theorem dX5_city_1 : decode cX5_city 1 = .ok (.getfield 10, 3) := by decide +kernel
theorem dX5_city_4 : decode cX5_city 4 = .ok (.aload_n 0, 1) := by decide +kernel
theorem dX5_city_5 : decode cX5_city 5 = .ok (.getfield 52, 3) := by decide +kernel
theorem dX5_city_8 : decode cX5_city 8 = .ok (.invokevirtual 67, 3) := by decide +kernel
theorem dX5_city_11 : decode cX5_city 11 = .ok (.ifCond .ne 6, 3) := by decide +kernel
theorem dX5_city_17 : decode cX5_city 17 = .ok (.aload_n 0, 1) := by decide +kernel
theorem dX5_city_18 : decode cX5_city 18 = .ok (.getfield 48, 3) := by decide +kernel
theorem dX5_city_21 : decode cX5_city 21 = .ok (.astore_n 1, 1) := by decide +kernel
theorem dX5_city_22 : decode cX5_city 22 = .ok (.aload_n 0, 1) := by decide +kernel
theorem dX5_city_23 : decode cX5_city 23 = .ok (.aload_n 0, 1) := by decide +kernel
theorem dX5_city_24 : decode cX5_city 24 = .ok (.getfield 52, 3) := by decide +kernel
theorem dX5_city_27 : decode cX5_city 27 = .ok (.putfield 48, 3) := by decide +kernel
theorem dX5_city_30 : decode cX5_city 30 = .ok (.aload_n 0, 1) := by decide +kernel
theorem dX5_city_31 : decode cX5_city 31 = .ok (.aload_n 1, 1) := by decide +kernel
theorem dX5_city_32 : decode cX5_city 32 = .ok (.putfield 52, 3) := by decide +kernel
theorem dX5_city_35 : decode cX5_city 35 = .ok (.aload_n 0, 1) := by decide +kernel
theorem dX5_city_36 : decode cX5_city 36 = .ok (.getfield 10, 3) := by decide +kernel
theorem dX5_city_39 : decode cX5_city 39 = .ok (.iconst 0, 1) := by decide +kernel
theorem dX5_city_40 : decode cX5_city 40 = .ok (.putfield 63, 3) := by decide +kernel
theorem dX5_city_43 : decode cX5_city 43 = .ok (.aload_n 0, 1) := by decide +kernel
theorem dX5_city_44 : decode cX5_city 44 = .ok (.invokevirtual 71, 3) := by decide +kernel
theorem dX5_city_47 : decode cX5_city 47 = .ok (.aload_n 0, 1) := by decide +kernel
theorem dX5_city_48 : decode cX5_city 48 = .ok (.getfield 48, 3) := by decide +kernel
theorem dX5_city_51 : decode cX5_city 51 = .ok (.getfield 74, 3) := by decide +kernel
theorem dX5_city_54 : decode cX5_city 54 = .ok (.ireturn, 1) := by decide +kernel
theorem dX5_fault_0 : decode cX5_fault 0 = .ok (.iload_n 1, 1) := by decide +kernel
theorem dX5_fault_1 : decode cX5_fault 1 = .ok (.ifCond .ne 11, 3) := by decide +kernel
theorem dX5_fault_4 : decode cX5_fault 4 = .ok (.aload_n 0, 1) := by decide +kernel
theorem dX5_fault_5 : decode cX5_fault 5 = .ok (.getfield 10, 3) := by decide +kernel
theorem dX5_fault_8 : decode cX5_fault 8 = .ok (.getfield 77, 3) := by decide +kernel
theorem dX5_fault_11 : decode cX5_fault 11 = .ok (.ireturn, 1) := by decide +kernel
theorem dX5_fault_12 : decode cX5_fault 12 = .ok (.iload_n 1, 1) := by decide +kernel
theorem dX5_fault_13 : decode cX5_fault 13 = .ok (.iconst 1, 1) := by decide +kernel
theorem dX5_fault_14 : decode cX5_fault 14 = .ok (.if_icmp .ne 13, 3) := by decide +kernel
theorem dX5_fault_17 : decode cX5_fault 17 = .ok (.aload_n 0, 1) := by decide +kernel
theorem dX5_fault_18 : decode cX5_fault 18 = .ok (.getfield 10, 3) := by decide +kernel
theorem dX5_fault_21 : decode cX5_fault 21 = .ok (.getfield 80, 3) := by decide +kernel
theorem dX5_fault_24 : decode cX5_fault 24 = .ok (.goto 4, 3) := by decide +kernel
theorem dX5_fault_27 : decode cX5_fault 27 = .ok (.iconst (-1), 1) := by decide +kernel
theorem dX5_fault_28 : decode cX5_fault 28 = .ok (.ireturn, 1) := by decide +kernel
theorem dX5_at_0 : decode cX5_at 0 = .ok (.aload_n 0, 1) := by decide +kernel
theorem dX5_at_1 : decode cX5_at 1 = .ok (.getfield 48, 3) := by decide +kernel
theorem dX5_at_4 : decode cX5_at 4 = .ok (.iload_n 1, 1) := by decide +kernel
theorem dX5_at_5 : decode cX5_at 5 = .ok (.i2l, 1) := by decide +kernel
theorem dX5_at_6 : decode cX5_at 6 = .ok (.invokevirtual 83, 3) := by decide +kernel
theorem dX5_at_9 : decode cX5_at 9 = .ok (.ifCond .eq 15, 3) := by decide +kernel
theorem dX5_at_24 : decode cX5_at 24 = .ok (.bipush (-2), 2) := by decide +kernel
theorem dX5_at_26 : decode cX5_at 26 = .ok (.ireturn, 1) := by decide +kernel
