theorem dX5_paste_0 : decode cX5_paste 0 = .ok (.aload_n 0, 1) := by decide +kernel
theorem dX5_paste_1 : decode cX5_paste 1 = .ok (.getfield 19, 3) := by decide +kernel
theorem dX5_paste_101 : decode cX5_paste 101 = .ok (.iload_n 1, 1) := by decide +kernel
theorem dX5_paste_102 : decode cX5_paste 102 = .ok (.iload_n 2, 1) := by decide +kernel
theorem dX5_paste_103 : decode cX5_paste 103 = .ok (.iload_n 3, 1) := by decide +kernel
theorem dX5_paste_104 : decode cX5_paste 104 = .ok (.iload 4, 2) := by decide +kernel
theorem dX5_paste_106 : decode cX5_paste 106 = .ok (.iload 5, 2) := by decide +kernel
theorem dX5_paste_108 : decode cX5_paste 108 = .ok (.invokevirtual 341, 3) := by decide +kernel
theorem dX5_paste_11 : decode cX5_paste 11 = .ok (.aload_n 0, 1) := by decide +kernel
theorem dX5_paste_111 : decode cX5_paste 111 = .ok (.iconst 0, 1) := by decide +kernel
theorem dX5_paste_112 : decode cX5_paste 112 = .ok (.ireturn, 1) := by decide +kernel
theorem dX5_paste_12 : decode cX5_paste 12 = .ok (.getfield 19, 3) := by decide +kernel
theorem dX5_paste_15 : decode cX5_paste 15 = .ok (.iload_n 3, 1) := by decide +kernel
theorem dX5_paste_16 : decode cX5_paste 16 = .ok (.invokevirtual 321, 3) := by decide +kernel
theorem dX5_paste_19 : decode cX5_paste 19 = .ok (.ifCond .ne 6, 3) := by decide +kernel
theorem dX5_paste_22 : decode cX5_paste 22 = .ok (.bipush (-2), 2) := by decide +kernel
theorem dX5_paste_24 : decode cX5_paste 24 = .ok (.ireturn, 1) := by decide +kernel
theorem dX5_paste_25 : decode cX5_paste 25 = .ok (.aload_n 0, 1) := by decide +kernel
theorem dX5_paste_26 : decode cX5_paste 26 = .ok (.getfield 19, 3) := by decide +kernel
theorem dX5_paste_29 : decode cX5_paste 29 = .ok (.iload_n 1, 1) := by decide +kernel
theorem dX5_paste_30 : decode cX5_paste 30 = .ok (.invokevirtual 328, 3) := by decide +kernel
theorem dX5_paste_33 : decode cX5_paste 33 = .ok (.ifCond .eq 14, 3) := by decide +kernel
theorem dX5_paste_36 : decode cX5_paste 36 = .ok (.aload_n 0, 1) := by decide +kernel
theorem dX5_paste_37 : decode cX5_paste 37 = .ok (.getfield 19, 3) := by decide +kernel
theorem dX5_paste_4 : decode cX5_paste 4 = .ok (.iload_n 1, 1) := by decide +kernel
theorem dX5_paste_40 : decode cX5_paste 40 = .ok (.iload_n 3, 1) := by decide +kernel
theorem dX5_paste_41 : decode cX5_paste 41 = .ok (.invokevirtual 328, 3) := by decide +kernel
theorem dX5_paste_44 : decode cX5_paste 44 = .ok (.ifCond .ne 6, 3) := by decide +kernel
theorem dX5_paste_47 : decode cX5_paste 47 = .ok (.bipush (-6), 2) := by decide +kernel
theorem dX5_paste_49 : decode cX5_paste 49 = .ok (.ireturn, 1) := by decide +kernel
theorem dX5_paste_5 : decode cX5_paste 5 = .ok (.invokevirtual 321, 3) := by decide +kernel
theorem dX5_paste_50 : decode cX5_paste 50 = .ok (.aload_n 0, 1) := by decide +kernel
theorem dX5_paste_51 : decode cX5_paste 51 = .ok (.getfield 19, 3) := by decide +kernel
theorem dX5_paste_54 : decode cX5_paste 54 = .ok (.iload_n 1, 1) := by decide +kernel
theorem dX5_paste_55 : decode cX5_paste 55 = .ok (.iload_n 3, 1) := by decide +kernel
theorem dX5_paste_56 : decode cX5_paste 56 = .ok (.invokevirtual 335, 3) := by decide +kernel
theorem dX5_paste_59 : decode cX5_paste 59 = .ok (.ifCond .ne 6, 3) := by decide +kernel
theorem dX5_paste_62 : decode cX5_paste 62 = .ok (.bipush (-8), 2) := by decide +kernel
theorem dX5_paste_64 : decode cX5_paste 64 = .ok (.ireturn, 1) := by decide +kernel
theorem dX5_paste_65 : decode cX5_paste 65 = .ok (.aload_n 0, 1) := by decide +kernel
theorem dX5_paste_66 : decode cX5_paste 66 = .ok (.getfield 19, 3) := by decide +kernel
theorem dX5_paste_69 : decode cX5_paste 69 = .ok (.iload_n 1, 1) := by decide +kernel
theorem dX5_paste_70 : decode cX5_paste 70 = .ok (.iload_n 2, 1) := by decide +kernel
theorem dX5_paste_71 : decode cX5_paste 71 = .ok (.iload 5, 2) := by decide +kernel
theorem dX5_paste_73 : decode cX5_paste 73 = .ok (.invokevirtual 338, 3) := by decide +kernel
theorem dX5_paste_76 : decode cX5_paste 76 = .ok (.ifCond .eq 18, 3) := by decide +kernel
theorem dX5_paste_79 : decode cX5_paste 79 = .ok (.aload_n 0, 1) := by decide +kernel
theorem dX5_paste_8 : decode cX5_paste 8 = .ok (.ifCond .eq 14, 3) := by decide +kernel
theorem dX5_paste_80 : decode cX5_paste 80 = .ok (.getfield 19, 3) := by decide +kernel
theorem dX5_paste_83 : decode cX5_paste 83 = .ok (.iload_n 3, 1) := by decide +kernel
theorem dX5_paste_84 : decode cX5_paste 84 = .ok (.iload 4, 2) := by decide +kernel
theorem dX5_paste_86 : decode cX5_paste 86 = .ok (.iload 5, 2) := by decide +kernel
theorem dX5_paste_88 : decode cX5_paste 88 = .ok (.invokevirtual 338, 3) := by decide +kernel
theorem dX5_paste_91 : decode cX5_paste 91 = .ok (.ifCond .ne 6, 3) := by decide +kernel
theorem dX5_paste_94 : decode cX5_paste 94 = .ok (.bipush (-7), 2) := by decide +kernel
theorem dX5_paste_96 : decode cX5_paste 96 = .ok (.ireturn, 1) := by decide +kernel
theorem dX5_paste_97 : decode cX5_paste 97 = .ok (.aload_n 0, 1) := by decide +kernel
theorem dX5_paste_98 : decode cX5_paste 98 = .ok (.getfield 19, 3) := by decide +kernel
theorem dX6_chain_0 : decode cX6_chain 0 = .ok (.aload_n 0, 1) := by decide +kernel
theorem dX6_chain_1 : decode cX6_chain 1 = .ok (.iconst 0, 1) := by decide +kernel
theorem dX6_chain_11 : decode cX6_chain 11 = .ok (.ifCond .ne 6, 3) := by decide +kernel
theorem dX6_chain_14 : decode cX6_chain 14 = .ok (.bipush (-2), 2) := by decide +kernel
theorem dX6_chain_16 : decode cX6_chain 16 = .ok (.ireturn, 1) := by decide +kernel
theorem dX6_chain_17 : decode cX6_chain 17 = .ok (.aload_n 0, 1) := by decide +kernel
theorem dX6_chain_18 : decode cX6_chain 18 = .ok (.invokevirtual 270, 3) := by decide +kernel
theorem dX6_chain_2 : decode cX6_chain 2 = .ok (.putfield 71, 3) := by decide +kernel
theorem dX6_chain_21 : decode cX6_chain 21 = .ok (.iconst 0, 1) := by decide +kernel
theorem dX6_chain_22 : decode cX6_chain 22 = .ok (.istore_n 2, 1) := by decide +kernel
theorem dX6_chain_23 : decode cX6_chain 23 = .ok (.iload_n 1, 1) := by decide +kernel
theorem dX6_chain_24 : decode cX6_chain 24 = .ok (.istore_n 3, 1) := by decide +kernel
theorem dX6_chain_25 : decode cX6_chain 25 = .ok (.iload_n 3, 1) := by decide +kernel
theorem dX6_chain_26 : decode cX6_chain 26 = .ok (.iconst (-1), 1) := by decide +kernel
theorem dX6_chain_27 : decode cX6_chain 27 = .ok (.if_icmp .eq 27, 3) := by decide +kernel
theorem dX6_chain_30 : decode cX6_chain 30 = .ok (.iload_n 2, 1) := by decide +kernel
theorem dX6_chain_31 : decode cX6_chain 31 = .ok (.iload_n 3, 1) := by decide +kernel
theorem dX6_chain_32 : decode cX6_chain 32 = .ok (.invokestatic 240, 3) := by decide +kernel
theorem dX6_chain_35 : decode cX6_chain 35 = .ok (.ifCond .ne 19, 3) := by decide +kernel
theorem dX6_chain_38 : decode cX6_chain 38 = .ok (.iload_n 2, 1) := by decide +kernel
theorem dX6_chain_39 : decode cX6_chain 39 = .ok (.iconst 1, 1) := by decide +kernel
theorem dX6_chain_40 : decode cX6_chain 40 = .ok (.iload_n 3, 1) := by decide +kernel
theorem dX6_chain_41 : decode cX6_chain 41 = .ok (.ishl, 1) := by decide +kernel
theorem dX6_chain_42 : decode cX6_chain 42 = .ok (.ior, 1) := by decide +kernel
theorem dX6_chain_43 : decode cX6_chain 43 = .ok (.istore_n 2, 1) := by decide +kernel
theorem dX6_chain_44 : decode cX6_chain 44 = .ok (.aload_n 0, 1) := by decide +kernel
theorem dX6_chain_45 : decode cX6_chain 45 = .ok (.getfield 50, 3) := by decide +kernel
theorem dX6_chain_48 : decode cX6_chain 48 = .ok (.iload_n 3, 1) := by decide +kernel
theorem dX6_chain_49 : decode cX6_chain 49 = .ok (.iaload, 1) := by decide +kernel
theorem dX6_chain_5 : decode cX6_chain 5 = .ok (.aload_n 0, 1) := by decide +kernel
theorem dX6_chain_50 : decode cX6_chain 50 = .ok (.istore_n 3, 1) := by decide +kernel
theorem dX6_chain_51 : decode cX6_chain 51 = .ok (.goto (-26), 3) := by decide +kernel
theorem dX6_chain_54 : decode cX6_chain 54 = .ok (.iload_n 2, 1) := by decide +kernel
theorem dX6_chain_55 : decode cX6_chain 55 = .ok (.invokestatic 264, 3) := by decide +kernel
theorem dX6_chain_58 : decode cX6_chain 58 = .ok (.ireturn, 1) := by decide +kernel
theorem dX6_chain_6 : decode cX6_chain 6 = .ok (.iload_n 1, 1) := by decide +kernel
theorem dX6_chain_7 : decode cX6_chain 7 = .ok (.i2l, 1) := by decide +kernel
theorem dX6_chain_8 : decode cX6_chain 8 = .ok (.invokevirtual 234, 3) := by decide +kernel
theorem dX6_paste_0 : decode cX6_paste 0 = .ok (.aload_n 0, 1) := by decide +kernel
theorem dX6_paste_1 : decode cX6_paste 1 = .ok (.iconst 0, 1) := by decide +kernel
theorem dX6_paste_100 : decode cX6_paste 100 = .ok (.ladd, 1) := by decide +kernel
theorem dX6_paste_101 : decode cX6_paste 101 = .ok (.aload_n 0, 1) := by decide +kernel
theorem dX6_paste_102 : decode cX6_paste 102 = .ok (.getfield 13, 3) := by decide +kernel
theorem dX6_paste_105 : decode cX6_paste 105 = .ok (.iload_n 3, 1) := by decide +kernel
theorem dX6_paste_106 : decode cX6_paste 106 = .ok (.iaload, 1) := by decide +kernel
theorem dX6_paste_107 : decode cX6_paste 107 = .ok (.i2l, 1) := by decide +kernel
theorem dX6_paste_108 : decode cX6_paste 108 = .ok (.lcmp, 1) := by decide +kernel
theorem dX6_paste_109 : decode cX6_paste 109 = .ok (.ifCond .le 6, 3) := by decide +kernel
theorem dX6_paste_112 : decode cX6_paste 112 = .ok (.bipush (-7), 2) := by decide +kernel
theorem dX6_paste_114 : decode cX6_paste 114 = .ok (.ireturn, 1) := by decide +kernel
theorem dX6_paste_115 : decode cX6_paste 115 = .ok (.iconst 0, 1) := by decide +kernel
theorem dX6_paste_116 : decode cX6_paste 116 = .ok (.istore 6, 2) := by decide +kernel
theorem dX6_paste_118 : decode cX6_paste 118 = .ok (.iload 6, 2) := by decide +kernel
theorem dX6_paste_12 : decode cX6_paste 12 = .ok (.iload_n 3, 1) := by decide +kernel
theorem dX6_paste_120 : decode cX6_paste 120 = .ok (.iload 5, 2) := by decide +kernel
theorem dX6_paste_122 : decode cX6_paste 122 = .ok (.if_icmp .ge 30, 3) := by decide +kernel
theorem dX6_paste_125 : decode cX6_paste 125 = .ok (.aload_n 0, 1) := by decide +kernel
theorem dX6_paste_126 : decode cX6_paste 126 = .ok (.getfield 20, 3) := by decide +kernel
theorem dX6_paste_129 : decode cX6_paste 129 = .ok (.iload 6, 2) := by decide +kernel
theorem dX6_paste_13 : decode cX6_paste 13 = .ok (.invokestatic 80, 3) := by decide +kernel
theorem dX6_paste_131 : decode cX6_paste 131 = .ok (.aload_n 0, 1) := by decide +kernel
theorem dX6_paste_132 : decode cX6_paste 132 = .ok (.getfield 16, 3) := by decide +kernel
theorem dX6_paste_135 : decode cX6_paste 135 = .ok (.bipush 60, 2) := by decide +kernel
theorem dX6_paste_137 : decode cX6_paste 137 = .ok (.iload_n 1, 1) := by decide +kernel
theorem dX6_paste_138 : decode cX6_paste 138 = .ok (.imul, 1) := by decide +kernel
theorem dX6_paste_139 : decode cX6_paste 139 = .ok (.iload_n 2, 1) := by decide +kernel
theorem dX6_paste_140 : decode cX6_paste 140 = .ok (.iadd, 1) := by decide +kernel
theorem dX6_paste_141 : decode cX6_paste 141 = .ok (.iload 6, 2) := by decide +kernel
theorem dX6_paste_143 : decode cX6_paste 143 = .ok (.iadd, 1) := by decide +kernel
theorem dX6_paste_144 : decode cX6_paste 144 = .ok (.laload, 1) := by decide +kernel
theorem dX6_paste_145 : decode cX6_paste 145 = .ok (.lastore, 1) := by decide +kernel
theorem dX6_paste_146 : decode cX6_paste 146 = .ok (.iinc 6 1, 3) := by decide +kernel
theorem dX6_paste_149 : decode cX6_paste 149 = .ok (.goto (-31), 3) := by decide +kernel
theorem dX6_paste_152 : decode cX6_paste 152 = .ok (.iconst 0, 1) := by decide +kernel
theorem dX6_paste_153 : decode cX6_paste 153 = .ok (.istore 6, 2) := by decide +kernel
theorem dX6_paste_155 : decode cX6_paste 155 = .ok (.iload 6, 2) := by decide +kernel
theorem dX6_paste_157 : decode cX6_paste 157 = .ok (.iload 5, 2) := by decide +kernel
theorem dX6_paste_159 : decode cX6_paste 159 = .ok (.if_icmp .ge 31, 3) := by decide +kernel
theorem dX6_paste_16 : decode cX6_paste 16 = .ok (.ifCond .ne 6, 3) := by decide +kernel
theorem dX6_paste_162 : decode cX6_paste 162 = .ok (.aload_n 0, 1) := by decide +kernel
theorem dX6_paste_163 : decode cX6_paste 163 = .ok (.getfield 16, 3) := by decide +kernel
theorem dX6_paste_166 : decode cX6_paste 166 = .ok (.bipush 60, 2) := by decide +kernel
theorem dX6_paste_168 : decode cX6_paste 168 = .ok (.iload_n 3, 1) := by decide +kernel
theorem dX6_paste_169 : decode cX6_paste 169 = .ok (.imul, 1) := by decide +kernel
theorem dX6_paste_170 : decode cX6_paste 170 = .ok (.iload 4, 2) := by decide +kernel
theorem dX6_paste_172 : decode cX6_paste 172 = .ok (.iadd, 1) := by decide +kernel
theorem dX6_paste_173 : decode cX6_paste 173 = .ok (.iload 6, 2) := by decide +kernel
theorem dX6_paste_175 : decode cX6_paste 175 = .ok (.iadd, 1) := by decide +kernel
theorem dX6_paste_176 : decode cX6_paste 176 = .ok (.aload_n 0, 1) := by decide +kernel
theorem dX6_paste_177 : decode cX6_paste 177 = .ok (.getfield 20, 3) := by decide +kernel
theorem dX6_paste_180 : decode cX6_paste 180 = .ok (.iload 6, 2) := by decide +kernel
theorem dX6_paste_182 : decode cX6_paste 182 = .ok (.laload, 1) := by decide +kernel
theorem dX6_paste_183 : decode cX6_paste 183 = .ok (.lastore, 1) := by decide +kernel
theorem dX6_paste_184 : decode cX6_paste 184 = .ok (.iinc 6 1, 3) := by decide +kernel
theorem dX6_paste_187 : decode cX6_paste 187 = .ok (.goto (-32), 3) := by decide +kernel
theorem dX6_paste_19 : decode cX6_paste 19 = .ok (.bipush (-2), 2) := by decide +kernel
theorem dX6_paste_190 : decode cX6_paste 190 = .ok (.iconst 0, 1) := by decide +kernel
theorem dX6_paste_191 : decode cX6_paste 191 = .ok (.ireturn, 1) := by decide +kernel
theorem dX6_paste_2 : decode cX6_paste 2 = .ok (.putfield 71, 3) := by decide +kernel
theorem dX6_paste_21 : decode cX6_paste 21 = .ok (.ireturn, 1) := by decide +kernel
theorem dX6_paste_22 : decode cX6_paste 22 = .ok (.aload_n 0, 1) := by decide +kernel
theorem dX6_paste_23 : decode cX6_paste 23 = .ok (.getfield 7, 3) := by decide +kernel
theorem dX6_paste_26 : decode cX6_paste 26 = .ok (.iload_n 1, 1) := by decide +kernel
theorem dX6_paste_27 : decode cX6_paste 27 = .ok (.iaload, 1) := by decide +kernel
theorem dX6_paste_28 : decode cX6_paste 28 = .ok (.iconst (-1), 1) := by decide +kernel
theorem dX6_paste_29 : decode cX6_paste 29 = .ok (.if_icmp .eq 13, 3) := by decide +kernel
theorem dX6_paste_32 : decode cX6_paste 32 = .ok (.aload_n 0, 1) := by decide +kernel
theorem dX6_paste_33 : decode cX6_paste 33 = .ok (.getfield 7, 3) := by decide +kernel
theorem dX6_paste_36 : decode cX6_paste 36 = .ok (.iload_n 3, 1) := by decide +kernel
theorem dX6_paste_37 : decode cX6_paste 37 = .ok (.iaload, 1) := by decide +kernel
theorem dX6_paste_38 : decode cX6_paste 38 = .ok (.iconst (-1), 1) := by decide +kernel
theorem dX6_paste_39 : decode cX6_paste 39 = .ok (.if_icmp .ne 6, 3) := by decide +kernel
theorem dX6_paste_42 : decode cX6_paste 42 = .ok (.bipush (-6), 2) := by decide +kernel
theorem dX6_paste_44 : decode cX6_paste 44 = .ok (.ireturn, 1) := by decide +kernel
theorem dX6_paste_45 : decode cX6_paste 45 = .ok (.aload_n 0, 1) := by decide +kernel
theorem dX6_paste_46 : decode cX6_paste 46 = .ok (.getfield 7, 3) := by decide +kernel
theorem dX6_paste_49 : decode cX6_paste 49 = .ok (.iload_n 1, 1) := by decide +kernel
theorem dX6_paste_5 : decode cX6_paste 5 = .ok (.iload_n 1, 1) := by decide +kernel
theorem dX6_paste_50 : decode cX6_paste 50 = .ok (.iaload, 1) := by decide +kernel
theorem dX6_paste_51 : decode cX6_paste 51 = .ok (.aload_n 0, 1) := by decide +kernel
theorem dX6_paste_52 : decode cX6_paste 52 = .ok (.getfield 7, 3) := by decide +kernel
theorem dX6_paste_55 : decode cX6_paste 55 = .ok (.iload_n 3, 1) := by decide +kernel
theorem dX6_paste_56 : decode cX6_paste 56 = .ok (.iaload, 1) := by decide +kernel
theorem dX6_paste_57 : decode cX6_paste 57 = .ok (.if_icmp .eq 6, 3) := by decide +kernel
theorem dX6_paste_6 : decode cX6_paste 6 = .ok (.invokestatic 80, 3) := by decide +kernel
theorem dX6_paste_60 : decode cX6_paste 60 = .ok (.bipush (-8), 2) := by decide +kernel
theorem dX6_paste_62 : decode cX6_paste 62 = .ok (.ireturn, 1) := by decide +kernel
theorem dX6_paste_63 : decode cX6_paste 63 = .ok (.iload_n 2, 1) := by decide +kernel
theorem dX6_paste_64 : decode cX6_paste 64 = .ok (.ifCond .lt 48, 3) := by decide +kernel
theorem dX6_paste_67 : decode cX6_paste 67 = .ok (.iload 4, 2) := by decide +kernel
theorem dX6_paste_69 : decode cX6_paste 69 = .ok (.ifCond .lt 43, 3) := by decide +kernel
theorem dX6_paste_72 : decode cX6_paste 72 = .ok (.iload 5, 2) := by decide +kernel
theorem dX6_paste_74 : decode cX6_paste 74 = .ok (.ifCond .lt 38, 3) := by decide +kernel
theorem dX6_paste_77 : decode cX6_paste 77 = .ok (.iload_n 2, 1) := by decide +kernel
theorem dX6_paste_78 : decode cX6_paste 78 = .ok (.i2l, 1) := by decide +kernel
theorem dX6_paste_79 : decode cX6_paste 79 = .ok (.iload 5, 2) := by decide +kernel
theorem dX6_paste_81 : decode cX6_paste 81 = .ok (.i2l, 1) := by decide +kernel
theorem dX6_paste_82 : decode cX6_paste 82 = .ok (.ladd, 1) := by decide +kernel
theorem dX6_paste_83 : decode cX6_paste 83 = .ok (.aload_n 0, 1) := by decide +kernel
theorem dX6_paste_84 : decode cX6_paste 84 = .ok (.getfield 13, 3) := by decide +kernel
theorem dX6_paste_87 : decode cX6_paste 87 = .ok (.iload_n 1, 1) := by decide +kernel
theorem dX6_paste_88 : decode cX6_paste 88 = .ok (.iaload, 1) := by decide +kernel
theorem dX6_paste_89 : decode cX6_paste 89 = .ok (.i2l, 1) := by decide +kernel
theorem dX6_paste_9 : decode cX6_paste 9 = .ok (.ifCond .eq 10, 3) := by decide +kernel
theorem dX6_paste_90 : decode cX6_paste 90 = .ok (.lcmp, 1) := by decide +kernel
theorem dX6_paste_91 : decode cX6_paste 91 = .ok (.ifCond .gt 21, 3) := by decide +kernel
theorem dX6_paste_94 : decode cX6_paste 94 = .ok (.iload 4, 2) := by decide +kernel
theorem dX6_paste_96 : decode cX6_paste 96 = .ok (.i2l, 1) := by decide +kernel
theorem dX6_paste_97 : decode cX6_paste 97 = .ok (.iload 5, 2) := by decide +kernel
theorem dX6_paste_99 : decode cX6_paste 99 = .ok (.i2l, 1) := by decide +kernel
theorem zh_paste5 {l : Launch} {D : va_G} {cI cZ cB cJ cR : ClassId} {ks ad : List Nat} {Psi : va_W → Prop} (hw : zworld ks ad zuq zNS Psi) : zMet l D cI cZ cB cJ cR zKS ks ad Psi yX5_paste (.code yX5_paste cX5_paste 6 (some .int)) 4 ([(7, 0, 0), (0, (-2147483648), 2147483647), (0, (-2147483648), 2147483647), (0, (-2147483648), 2147483647), (0, (-2147483648), 2147483647), (0, (-2147483648), 2147483647)], some (0, (-8), 0), [], [], [], zrun 32 1000 1 240, []) := by
  refine zmet_gen 4 (by decide) (Nat.le_of_ble_eq_true rfl) rfl ?_
  intro p e R s m args below meth c Q A ws As ls X hG hok hpre hR hl
  have hx := X.1.1
  have hb := X.1.2.1
  obtain ⟨_, _, rfl, ⟨a, i, rfl, ki, di⟩, hok1⟩ := zst1 hok
  obtain ⟨_, _, rfl, ⟨v1, rfl, lv1⟩, hok2⟩ := zst1 hok1
  obtain ⟨_, _, rfl, ⟨v2, rfl, lv2⟩, hok3⟩ := zst1 hok2
  obtain ⟨_, _, rfl, ⟨v3, rfl, lv3⟩, hok4⟩ := zst1 hok3
  obtain ⟨_, _, rfl, ⟨v4, rfl, lv4⟩, hok5⟩ := zst1 hok4
  obtain ⟨_, _, rfl, ⟨v5, rfl, lv5⟩, hok6⟩ := zst1 hok5
  obtain rfl := zst0 hok6
  dsimp only at lv1 lv2 lv3 lv4 lv5
  have hl : lv_has ls 6 [(0, .ref a), (1, .int v1), (2, .int v2), (3, .int v3), (4, .int v4), (5, .int v5)] := hl
  obtain ⟨fs, hob, hfs⟩ := zobj hG.2.2.2.1 ki di zks_5
  obtain ⟨r1, j1, q1, k1, d1⟩ := zref (f := 1) (k := 3) hfs rfl
  refine lv_aload_n hx hb dX5_paste_0 rfl (lv_at hl 0 rfl) ?_
  refine zg_RX5 X (19, 5, 1) (by decide) _ zks_5 (by decide) _ _ _ _ _ _ _ i _ (.ref r1) hG.1 hob q1 dX5_paste_1 ?_
  refine lv_iload_n hx hb dX5_paste_4 rfl (lv_at hl 1 rfl) ?_
  refine zq_RX5_321 X (zh_isSlot3 v1) (by decide) rfl rfl _ _ [] _ _ _ [.ref r1, .int v1] hG.1 hG.2.1 hG.2.2.1 hG.2.2.2.1 hG.2.2.2.2.1 ⟨⟨_, _, rfl, k1, d1⟩, ⟨_, rfl, Int.le_refl _, Int.le_refl _⟩, trivial⟩ (by decide) hl.1 (fun _ h => by cases h) dX5_paste_5 (fun H1 locs1 w1 r b1 b2 b3 b4 b5 b6 b7 => ?_)
  obtain ⟨_, _, rfl, ⟨z1, rfl, lz1⟩, b8⟩ := zst1 b7.1
  obtain rfl := zst0 b8
  dsimp only at lz1
  have hG := hG.next b1 b2 b3 b4 b5 b6 nilz
  clear b1 b2 b3 b4 b5 b6 b7 b8
  dsimp only [List.cons_append, List.nil_append]
  refine lv_if_eq (tgt := 22) hx hb dX5_paste_8 (by decide) (fun _ => ?_) (fun hz1 => ?_)
  · skip
    refine lv_bipush (v := (-2)) hx hb dX5_paste_22 (by decide) ?_
    exact hR 24 _ _ _ _ [.int (-2)] hG ⟨⟨⟨_, rfl, by decide⟩, trivial⟩, fun _ h => (by cases h), fun _ h => (by cases h)⟩ dX5_paste_24
  have in1 := zslot_in (v := v1) (fun h9 => hz1 (Int32.toInt_inj.mp (show z1.toInt = 0 by omega)))
  obtain ⟨fs, hob, hfs⟩ := zobj hG.2.2.2.1 ki di zks_5
  obtain ⟨r1, j1, q1, k1, d1⟩ := zref (f := 1) (k := 3) hfs rfl
  refine lv_aload_n hx hb dX5_paste_11 rfl (lv_at hl 0 rfl) ?_
  refine zg_RX5 X (19, 5, 1) (by decide) _ zks_5 (by decide) _ _ _ _ _ _ _ i _ (.ref r1) hG.1 hob q1 dX5_paste_12 ?_
  refine lv_iload_n hx hb dX5_paste_15 rfl (lv_at hl 3 rfl) ?_
  refine zq_RX5_321 X (zh_isSlot3 v3) (by decide) rfl rfl _ _ [] _ _ _ [.ref r1, .int v3] hG.1 hG.2.1 hG.2.2.1 hG.2.2.2.1 hG.2.2.2.2.1 ⟨⟨_, _, rfl, k1, d1⟩, ⟨_, rfl, Int.le_refl _, Int.le_refl _⟩, trivial⟩ (by decide) hl.1 (fun _ h => by cases h) dX5_paste_16 (fun H2 locs2 w2 r b1 b2 b3 b4 b5 b6 b7 => ?_)
  obtain ⟨_, _, rfl, ⟨z2, rfl, lz2⟩, b8⟩ := zst1 b7.1
  obtain rfl := zst0 b8
  dsimp only at lz2
  have hG := hG.next b1 b2 b3 b4 b5 b6 nilz
  clear b1 b2 b3 b4 b5 b6 b7 b8
  dsimp only [List.cons_append, List.nil_append]
  refine lv_if_ne (tgt := 25) hx hb dX5_paste_19 (by decide) (fun hz2 => ?_) (fun _ => ?_)
  case refine_2 =>
    refine lv_bipush (v := (-2)) hx hb dX5_paste_22 (by decide) ?_
    exact hR 24 _ _ _ _ [.int (-2)] hG ⟨⟨⟨_, rfl, by decide⟩, trivial⟩, fun _ h => (by cases h), fun _ h => (by cases h)⟩ dX5_paste_24
  have in3 := zslot_in (v := v3) (fun h9 => hz2 (Int32.toInt_inj.mp (show z2.toInt = 0 by omega)))
  obtain ⟨fs, hob, hfs⟩ := zobj hG.2.2.2.1 ki di zks_5
  obtain ⟨r1, j1, q1, k1, d1⟩ := zref (f := 1) (k := 3) hfs rfl
  refine lv_aload_n hx hb dX5_paste_25 rfl (lv_at hl 0 rfl) ?_
  refine zg_RX5 X (19, 5, 1) (by decide) _ zks_5 (by decide) _ _ _ _ _ _ _ i _ (.ref r1) hG.1 hob q1 dX5_paste_26 ?_
  refine lv_iload_n hx hb dX5_paste_29 rfl (lv_at hl 1 rfl) ?_
  refine zq_RX5_328 X (zh_hasRow3) (by decide) rfl rfl _ _ [] _ _ _ [.ref r1, .int v1] hG.1 hG.2.1 hG.2.2.1 hG.2.2.2.1 hG.2.2.2.2.1 ⟨⟨_, _, rfl, k1, d1⟩, ⟨_, rfl, in1⟩, trivial⟩ (by decide) hl.1 (fun _ h => by cases h) dX5_paste_30 (fun H3 locs3 w3 r b1 b2 b3 b4 b5 b6 b7 => ?_)
  obtain ⟨_, _, rfl, ⟨z3, rfl, lz3⟩, b8⟩ := zst1 b7.1
  obtain rfl := zst0 b8
  dsimp only at lz3
  have hG := hG.next b1 b2 b3 b4 b5 b6 nilz
  clear b1 b2 b3 b4 b5 b6 b7 b8
  dsimp only [List.cons_append, List.nil_append]
  refine lv_if_eq (tgt := 47) hx hb dX5_paste_33 (by decide) (fun _ => ?_) (fun _ => ?_)
  · skip
    refine lv_bipush (v := (-6)) hx hb dX5_paste_47 (by decide) ?_
    exact hR 49 _ _ _ _ [.int (-6)] hG ⟨⟨⟨_, rfl, by decide⟩, trivial⟩, fun _ h => (by cases h), fun _ h => (by cases h)⟩ dX5_paste_49
  obtain ⟨fs, hob, hfs⟩ := zobj hG.2.2.2.1 ki di zks_5
  obtain ⟨r1, j1, q1, k1, d1⟩ := zref (f := 1) (k := 3) hfs rfl
  refine lv_aload_n hx hb dX5_paste_36 rfl (lv_at hl 0 rfl) ?_
  refine zg_RX5 X (19, 5, 1) (by decide) _ zks_5 (by decide) _ _ _ _ _ _ _ i _ (.ref r1) hG.1 hob q1 dX5_paste_37 ?_
  refine lv_iload_n hx hb dX5_paste_40 rfl (lv_at hl 3 rfl) ?_
  refine zq_RX5_328 X (zh_hasRow3) (by decide) rfl rfl _ _ [] _ _ _ [.ref r1, .int v3] hG.1 hG.2.1 hG.2.2.1 hG.2.2.2.1 hG.2.2.2.2.1 ⟨⟨_, _, rfl, k1, d1⟩, ⟨_, rfl, in3⟩, trivial⟩ (by decide) hl.1 (fun _ h => by cases h) dX5_paste_41 (fun H4 locs4 w4 r b1 b2 b3 b4 b5 b6 b7 => ?_)
  obtain ⟨_, _, rfl, ⟨z4, rfl, lz4⟩, b8⟩ := zst1 b7.1
  obtain rfl := zst0 b8
  dsimp only at lz4
  have hG := hG.next b1 b2 b3 b4 b5 b6 nilz
  clear b1 b2 b3 b4 b5 b6 b7 b8
  dsimp only [List.cons_append, List.nil_append]
  refine lv_if_ne (tgt := 50) hx hb dX5_paste_44 (by decide) (fun _ => ?_) (fun _ => ?_)
  case refine_2 =>
    refine lv_bipush (v := (-6)) hx hb dX5_paste_47 (by decide) ?_
    exact hR 49 _ _ _ _ [.int (-6)] hG ⟨⟨⟨_, rfl, by decide⟩, trivial⟩, fun _ h => (by cases h), fun _ h => (by cases h)⟩ dX5_paste_49
  obtain ⟨fs, hob, hfs⟩ := zobj hG.2.2.2.1 ki di zks_5
  obtain ⟨r1, j1, q1, k1, d1⟩ := zref (f := 1) (k := 3) hfs rfl
  refine lv_aload_n hx hb dX5_paste_50 rfl (lv_at hl 0 rfl) ?_
  refine zg_RX5 X (19, 5, 1) (by decide) _ zks_5 (by decide) _ _ _ _ _ _ _ i _ (.ref r1) hG.1 hob q1 dX5_paste_51 ?_
  refine lv_iload_n hx hb dX5_paste_54 rfl (lv_at hl 1 rfl) ?_
  refine lv_iload_n hx hb dX5_paste_55 rfl (lv_at hl 3 rfl) ?_
  refine zq_RX5_335 X (zh_areAlike3) (by decide) rfl rfl _ _ [] _ _ _ [.ref r1, .int v1, .int v3] hG.1 hG.2.1 hG.2.2.1 hG.2.2.2.1 hG.2.2.2.2.1 ⟨⟨_, _, rfl, k1, d1⟩, ⟨_, rfl, in1⟩, ⟨_, rfl, in3⟩, trivial⟩ (by decide) hl.1 (fun _ h => by cases h) dX5_paste_56 (fun H5 locs5 w5 r b1 b2 b3 b4 b5 b6 b7 => ?_)
  obtain ⟨_, _, rfl, ⟨z5, rfl, lz5⟩, b8⟩ := zst1 b7.1
  obtain rfl := zst0 b8
  dsimp only at lz5
  have hG := hG.next b1 b2 b3 b4 b5 b6 nilz
  clear b1 b2 b3 b4 b5 b6 b7 b8
  dsimp only [List.cons_append, List.nil_append]
  refine lv_if_ne (tgt := 65) hx hb dX5_paste_59 (by decide) (fun _ => ?_) (fun _ => ?_)
  case refine_2 =>
    refine lv_bipush (v := (-8)) hx hb dX5_paste_62 (by decide) ?_
    exact hR 64 _ _ _ _ [.int (-8)] hG ⟨⟨⟨_, rfl, by decide⟩, trivial⟩, fun _ h => (by cases h), fun _ h => (by cases h)⟩ dX5_paste_64
  obtain ⟨fs, hob, hfs⟩ := zobj hG.2.2.2.1 ki di zks_5
  obtain ⟨r1, j1, q1, k1, d1⟩ := zref (f := 1) (k := 3) hfs rfl
  refine lv_aload_n hx hb dX5_paste_65 rfl (lv_at hl 0 rfl) ?_
  refine zg_RX5 X (19, 5, 1) (by decide) _ zks_5 (by decide) _ _ _ _ _ _ _ i _ (.ref r1) hG.1 hob q1 dX5_paste_66 ?_
  refine lv_iload_n hx hb dX5_paste_69 rfl (lv_at hl 1 rfl) ?_
  refine lv_iload_n hx hb dX5_paste_70 rfl (lv_at hl 2 rfl) ?_
  refine lv_iload hx hb dX5_paste_71 (lv_at hl 5 rfl) ?_
  refine zq_RX5_338 X (zh_holds3 v2 v5) (by decide) rfl rfl _ _ [] _ _ _ [.ref r1, .int v1, .int v2, .int v5] hG.1 hG.2.1 hG.2.2.1 hG.2.2.2.1 hG.2.2.2.2.1 ⟨⟨_, _, rfl, k1, d1⟩, ⟨_, rfl, in1⟩, ⟨_, rfl, Int.le_refl _, Int.le_refl _⟩, ⟨_, rfl, Int.le_refl _, Int.le_refl _⟩, trivial⟩ (by decide) hl.1 (fun _ h => by cases h) dX5_paste_73 (fun H6 locs6 w6 r b1 b2 b3 b4 b5 b6 b7 => ?_)
  obtain ⟨_, _, rfl, ⟨z6, rfl, lz6⟩, b8⟩ := zst1 b7.1
  obtain rfl := zst0 b8
  dsimp only at lz6
  have hG := hG.next b1 b2 b3 b4 b5 b6 nilz
  clear b1 b2 b3 b4 b5 b6 b7 b8
  dsimp only [List.cons_append, List.nil_append]
  refine lv_if_eq (tgt := 94) hx hb dX5_paste_76 (by decide) (fun _ => ?_) (fun hz6 => ?_)
  · skip
    refine lv_bipush (v := (-7)) hx hb dX5_paste_94 (by decide) ?_
    exact hR 96 _ _ _ _ [.int (-7)] hG ⟨⟨⟨_, rfl, by decide⟩, trivial⟩, fun _ h => (by cases h), fun _ h => (by cases h)⟩ dX5_paste_96
  have ho1 := zhold_in (i := v2) (n := v5) (by have : z6.toInt ≠ 0 := fun h9 => hz6 (Int32.toInt_inj.mp h9); omega)
  obtain ⟨fs, hob, hfs⟩ := zobj hG.2.2.2.1 ki di zks_5
  obtain ⟨r1, j1, q1, k1, d1⟩ := zref (f := 1) (k := 3) hfs rfl
  refine lv_aload_n hx hb dX5_paste_79 rfl (lv_at hl 0 rfl) ?_
  refine zg_RX5 X (19, 5, 1) (by decide) _ zks_5 (by decide) _ _ _ _ _ _ _ i _ (.ref r1) hG.1 hob q1 dX5_paste_80 ?_
  refine lv_iload_n hx hb dX5_paste_83 rfl (lv_at hl 3 rfl) ?_
  refine lv_iload hx hb dX5_paste_84 (lv_at hl 4 rfl) ?_
  refine lv_iload hx hb dX5_paste_86 (lv_at hl 5 rfl) ?_
  refine zq_RX5_338 X (zh_holds3 v4 v5) (by decide) rfl rfl _ _ [] _ _ _ [.ref r1, .int v3, .int v4, .int v5] hG.1 hG.2.1 hG.2.2.1 hG.2.2.2.1 hG.2.2.2.2.1 ⟨⟨_, _, rfl, k1, d1⟩, ⟨_, rfl, in3⟩, ⟨_, rfl, Int.le_refl _, Int.le_refl _⟩, ⟨_, rfl, Int.le_refl _, Int.le_refl _⟩, trivial⟩ (by decide) hl.1 (fun _ h => by cases h) dX5_paste_88 (fun H7 locs7 w7 r b1 b2 b3 b4 b5 b6 b7 => ?_)
  obtain ⟨_, _, rfl, ⟨z7, rfl, lz7⟩, b8⟩ := zst1 b7.1
  obtain rfl := zst0 b8
  dsimp only at lz7
  have hG := hG.next b1 b2 b3 b4 b5 b6 nilz
  clear b1 b2 b3 b4 b5 b6 b7 b8
  dsimp only [List.cons_append, List.nil_append]
  refine lv_if_ne (tgt := 97) hx hb dX5_paste_91 (by decide) (fun hz7 => ?_) (fun _ => ?_)
  case refine_2 =>
    refine lv_bipush (v := (-7)) hx hb dX5_paste_94 (by decide) ?_
    exact hR 96 _ _ _ _ [.int (-7)] hG ⟨⟨⟨_, rfl, by decide⟩, trivial⟩, fun _ h => (by cases h), fun _ h => (by cases h)⟩ dX5_paste_96
  have ho2 := zhold_in (i := v4) (n := v5) (by have : z7.toInt ≠ 0 := fun h9 => hz7 (Int32.toInt_inj.mp h9); omega)
  obtain ⟨fs, hob, hfs⟩ := zobj hG.2.2.2.1 ki di zks_5
  obtain ⟨r1, j1, q1, k1, d1⟩ := zref (f := 1) (k := 3) hfs rfl
  refine lv_aload_n hx hb dX5_paste_97 rfl (lv_at hl 0 rfl) ?_
  refine zg_RX5 X (19, 5, 1) (by decide) _ zks_5 (by decide) _ _ _ _ _ _ _ i _ (.ref r1) hG.1 hob q1 dX5_paste_98 ?_
  refine lv_iload_n hx hb dX5_paste_101 rfl (lv_at hl 1 rfl) ?_
  refine lv_iload_n hx hb dX5_paste_102 rfl (lv_at hl 2 rfl) ?_
  refine lv_iload_n hx hb dX5_paste_103 rfl (lv_at hl 3 rfl) ?_
  refine lv_iload hx hb dX5_paste_104 (lv_at hl 4 rfl) ?_
  refine lv_iload hx hb dX5_paste_106 (lv_at hl 5 rfl) ?_
  refine zq_RX5_341 X (zh_copyOver3 hw v2 v4 v5 ho1.1 ho2.1 ho1.2.1 ho1.2.2 ho2.2.2) (by decide) rfl rfl _ _ [] _ _ _ [.ref r1, .int v1, .int v2, .int v3, .int v4, .int v5] hG.1 hG.2.1 hG.2.2.1 hG.2.2.2.1 hG.2.2.2.2.1 ⟨⟨_, _, rfl, k1, d1⟩, ⟨_, rfl, in1⟩, ⟨_, rfl, Int.le_refl _, Int.le_refl _⟩, ⟨_, rfl, in3⟩, ⟨_, rfl, Int.le_refl _, Int.le_refl _⟩, ⟨_, rfl, Int.le_refl _, Int.le_refl _⟩, trivial⟩ (by decide) hl.1 (fun _ h => by cases h) dX5_paste_108 (fun H8 locs8 w8 r b1 b2 b3 b4 b5 b6 b7 => ?_)
  obtain rfl := zst0 b7.1
  have hG := hG.next b1 b2 b3 b4 b5 b6 (fun _ h => h)
  clear b1 b2 b3 b4 b5 b6 b7
  dsimp only [List.nil_append]
  refine lv_iconst (v := 0) hx hb dX5_paste_111 (by decide) ?_
  exact hR 112 _ _ _ _ [.int (0)] hG ⟨⟨⟨_, rfl, by decide⟩, trivial⟩, fun _ h => (by cases h), fun _ h => (by cases h)⟩ dX5_paste_112
theorem zh_chain {l : Launch} {D : va_G} {cI cZ cB cJ cR : ClassId} {ks ad : List Nat} (hw : zworld ks ad zuq zNS (zPsi ks ad)) {d0 : Nat} (hd : d0 ≤ 10) (hP : zMet l D cI cZ cB cJ cR zKS ks ad (zPsi ks ad) yX6_isPerson (.code yX6_isPerson cX6_isPerson 3 (some .boolean)) d0 ([(8, 0, 0), (1, (-9223372036854775808), 9223372036854775807)], some (0, 0, 1), [], [], [([(3, 1)], 2, 0, 0), ([(3, 1)], 0, 2, (-6))], [], [])) (hZ : zMet l D cI cZ cB cJ cR zKS ks ad (zPsi ks ad) yX6_sizeOf (.code yX6_sizeOf cX6_sizeOf 3 (some .int)) 2 ([(0, (-2147483648), 2147483647)], some (0, (-2147483648), 2147483647), [], [], [], [], [])) : zMet l D cI cZ cB cJ cR zKS ks ad (zPsi ks ad) yX6_chain (.code yX6_chain cX6_chain 4 (some .int)) 12 ([(8, 0, 0), (0, (-2147483648), 2147483647)], some (0, (-2147483648), 2147483647), [], [], [], [(6, 0)] ++ zrun 47 1000 1 7, []) := by
  refine zmet_gen 12 (by decide) (Nat.le_of_ble_eq_true rfl) rfl ?_
  intro p e R s m args below meth c Q A ws As ls X hG hok hpre hR hl
  have hx := X.1.1
  have hb := X.1.2.1
  obtain ⟨_, _, rfl, ⟨a, i, rfl, ki, di⟩, hok1⟩ := zst1 hok
  obtain ⟨_, _, rfl, ⟨v1, rfl, lv1⟩, hok2⟩ := zst1 hok1
  obtain rfl := zst0 hok2
  dsimp only at lv1
  obtain ⟨fs, hob, hfs⟩ := zobj hG.2.2.2.1 ki di zks_6
  have hl : lv_has ls 4 [(0, .ref a), (1, .int v1)] := hl
  refine lv_aload_n hx hb dX6_chain_0 rfl (lv_at hl 0 rfl) ?_
  refine lv_iconst (v := 0) hx hb dX6_chain_1 (by decide) ?_
  have hvv : zok ks ad (0, 0, 0) (.int 0) := ⟨_, rfl, by decide⟩
  refine zp_RX6 X (71, 6, 0) (by decide) _ (0, 0, 0) zks_6 rfl _ _ _ _ _ _ _ i _ _ hG.1 hG.2.1 hG.2.2.1 hob (zF2_len hfs).symm hvv dX6_chain_2 (fun H locs a1 a2 a3 => ?_)
  have hG := hG.putf hw ki (by decide) zks_6 rfl hob rfl hvv (List.mem_append_left _ List.mem_cons_self) a1 a2 a3
  clear a1 a2 a3 hob hfs
  refine lv_aload_n hx hb dX6_chain_5 rfl (lv_at hl 0 rfl) ?_
  refine lv_iload_n hx hb dX6_chain_6 rfl (lv_at hl 1 rfl) ?_
  refine lv_i2l hx hb dX6_chain_7 rfl ?_
  refine zq_RX6_234 X hP (by omega) rfl rfl _ _ [] _ _ _ [.ref a, .long v1.toInt64] hG.1 hG.2.1 hG.2.2.1 hG.2.2.2.1 hG.2.2.2.2.1 ⟨⟨_, _, rfl, ki, di⟩, ⟨_, rfl, bL _⟩, trivial⟩ (by decide) hl.1 (fun _ h => by cases h) dX6_chain_8 (fun H locs w1 r b1 b2 b3 b4 b5 b6 b7 => ?_)
  obtain ⟨_, _, rfl, ⟨z, rfl, lz⟩, b8⟩ := zst1 b7.1
  obtain rfl := zst0 b8
  have hfs2 := b7.2.2
  have hG := hG.next b1 b2 b3 b4 b5 b6 nilz
  clear b1 b2 b3 b4 b5 b6 b7 b8
  dsimp only [List.cons_append, List.nil_append]
  refine lv_if_ne (tgt := 17) hx hb dX6_chain_11 (by decide) (fun hz => ?_) (fun _ => ?_)
  case refine_2 =>
    refine lv_bipush (v := (-2)) hx hb dX6_chain_14 (by decide) ?_
    exact hR 16 _ _ _ _ [.int (-2)] hG ⟨⟨⟨_, rfl, by decide⟩, trivial⟩, fun _ h => (by cases h), fun _ h => (by cases h)⟩ dX6_chain_16
  obtain ⟨x1, x2, e1, e2, e3⟩ := hfs2 _ List.mem_cons_self (fun q hq r hr => by rw [List.mem_singleton] at hq; subst hq; have hr : some z.toInt = some r := hr; cases hr; exact fun h9 => hz (Int32.toInt_inj.mp h9))
  obtain ⟨x3, x4, e4, e5, e6⟩ := hfs2 _ (List.mem_cons_of_mem _ List.mem_cons_self) (fun q hq r hr => by rw [List.mem_singleton] at hq; subst hq; have hr : some z.toInt = some r := hr; cases hr; exact fun h9 => hz (Int32.toInt_inj.mp h9))
  have e1 : some (v1.toInt64.toInt) = some x1 := e1
  have e2 : some (0 : Int) = some x2 := e2
  have e4 : some (0 : Int) = some x3 := e4
  have e5 : some (v1.toInt64.toInt) = some x4 := e5
  cases e1
  cases e2
  cases e4
  cases e5
  dsimp only at e3 e6
  rw [i2L v1] at e3 e6
  refine lv_aload_n hx hb dX6_chain_17 rfl (lv_at hl 0 rfl) ?_
  refine zq_RX6_270 X (zh_lays hw) (by decide) rfl rfl _ _ [] _ _ _ [.ref a] hG.1 hG.2.1 hG.2.2.1 hG.2.2.2.1 hG.2.2.2.2.1 ⟨⟨_, _, rfl, ki, di⟩, trivial⟩ (by decide) hl.1 (fun _ h => by cases h) dX6_chain_18 (fun H locs w2 r b1 b2 b3 b4 b5 b6 b7 => ?_)
  obtain rfl := zst0 b7.1
  have hG := hG.next b1 b2 b3 b4 b5 b6 (fun q hq => List.mem_append_right _ hq)
  clear b1 b2 b3 b4 b5 b6 b7
  dsimp only [List.nil_append]
  have hex : ∀ (b q : Int32) (ls : Array Slot) (w : va_W) (H : Heap) (locs : List Loc), lv_has ls 4 [(3, .int q), (2, .int b), (0, .ref a), (1, .int v1)] → zHp D vwCl A s.heap (tyA cI cZ cB cJ cR) zKS ks ad RX0 (zPsi ks ad) ([(6, 0)] ++ zrun 47 1000 1 7) ws w H locs → W p l e R s m args below meth c H locs 0 0 Q (F0 m 54 ls []) := by
    intro b q ls w H locs hl hG
    refine lv_iload_n hx hb dX6_chain_54 rfl (lv_at hl 1 rfl) ?_
    refine zq_RX6_264 X hZ (by decide) rfl _ _ [] _ _ _ [.int b] hG.1 hG.2.1 hG.2.2.1 hG.2.2.2.1 hG.2.2.2.2.1 ⟨⟨_, rfl, bT _⟩, trivial⟩ (by decide) hl.1 (fun _ h => by cases h) dX6_chain_55 (fun H locs w3 r b1 b2 b3 b4 b5 b6 b7 => ?_)
    obtain ⟨_, _, rfl, ⟨z9, rfl, lz9⟩, b8⟩ := zst1 b7.1
    obtain rfl := zst0 b8
    exact hR 58 _ _ _ _ [.int z9] (hG.next b1 b2 b3 b4 b5 b6 nilz) ⟨⟨⟨_, rfl, lz9⟩, trivial⟩, fun _ h => (by cases h), fun _ h => (by cases h)⟩ dX6_chain_58
  refine lv_iconst (v := 0) hx hb dX6_chain_21 (by decide) ?_
  refine lv_istore_n hx hb dX6_chain_22 rfl hl (by decide) rfl (fun ls hl => ?_)
  have hl : lv_has ls 4 [(2, .int 0), (0, .ref a), (1, .int v1)] := hl
  refine lv_iload_n hx hb dX6_chain_23 rfl (lv_at hl 2 rfl) ?_
  refine lv_istore_n hx hb dX6_chain_24 rfl hl (by decide) rfl (fun ls hl => ?_)
  have hl : lv_has ls 4 [(3, .int v1), (2, .int 0), (0, .ref a), (1, .int v1)] := hl
  suffices hloop : ∀ (k : Nat) (b q : Int32) (ls : Array Slot) (w : va_W) (H : Heap) (locs : List Loc), 0 ≤ b.toInt → b.toInt ≤ 127 → -1 ≤ q.toInt → q.toInt ≤ 6 → (127 - b.toInt).toNat < k → lv_has ls 4 [(3, .int q), (2, .int b), (0, .ref a), (1, .int v1)] → zHp D vwCl A s.heap (tyA cI cZ cB cJ cR) zKS ks ad RX0 (zPsi ks ad) ([(6, 0)] ++ zrun 47 1000 1 7) ws w H locs → W p l e R s m args below meth c H locs 0 0 Q (F0 m 25 ls []) from hloop _ 0 v1 ls _ _ _ (by decide) (by decide) (by omega) (by omega) (Nat.lt_succ_self _) hl hG
  clear hl hG
  intro k
  induction k with
  | zero => intro b q ls w H locs h1 h2 h3 h4 hk; exact absurd hk (Nat.not_lt_zero _)
  | succ k ih =>
    intro b q ls w H locs h1 h2 h3 h4 hk hl hG
    refine lv_iload_n hx hb dX6_chain_25 rfl (lv_at hl 0 rfl) ?_
    refine lv_iconst (v := (-1)) hx hb dX6_chain_26 (by decide) ?_
    refine lv_icmp_eq (tgt := 54) hx hb dX6_chain_27 (by decide) (fun _ => hex b q ls w H locs hl hG) (fun hne => ?_)
    have hne : q.toInt ≠ -1 := fun h9 => hne (Int32.toInt_inj.mp (h9.trans (by decide)))
    refine lv_iload_n hx hb dX6_chain_30 rfl (lv_at hl 1 rfl) ?_
    refine lv_iload_n hx hb dX6_chain_31 rfl (lv_at hl 0 rfl) ?_
    refine zq_RX6_240 X (zh_isBit b q) (by decide) rfl _ _ [] _ _ _ [.int b, .int q] hG.1 hG.2.1 hG.2.2.1 hG.2.2.2.1 hG.2.2.2.2.1 ⟨⟨_, rfl, Int.le_refl _, Int.le_refl _⟩, ⟨_, rfl, Int.le_refl _, Int.le_refl _⟩, trivial⟩ (by decide) hl.1 (fun _ h => by cases h) dX6_chain_32 (fun H locs w1 r b1 b2 b3 b4 b5 b6 b7 => ?_)
    obtain ⟨_, _, rfl, ⟨z, rfl, lz⟩, b8⟩ := zst1 b7.1
    obtain rfl := zst0 b8
    dsimp only at lz
    have hG : zHp D vwCl A s.heap (tyA cI cZ cB cJ cR) zKS ks ad RX0 (zPsi ks ad) ([(6, 0)] ++ zrun 47 1000 1 7) ws w1 H locs := ⟨b1, b2, b3, b4, b5, fun k f hf => (b6 k f (fun h9 => by cases h9)).trans (hG.2.2.2.2.2 k f hf)⟩
    clear b1 b2 b3 b4 b5 b6 b7
    dsimp only [List.cons_append, List.nil_append]
    refine lv_if_ne (tgt := 54) hx hb dX6_chain_35 (by decide) (fun _ => hex b q ls w1 H locs hl hG) (fun hz => ?_)
    have hz : zbit b q = 0 := by rw [hz] at lz; have : (0 : Int32).toInt = 0 := rfl; omega
    obtain ⟨u1, u2⟩ := bitsUp h1 h2 (by omega) h4 hz
    refine lv_iload_n hx hb dX6_chain_38 rfl (lv_at hl 1 rfl) ?_
    refine lv_iconst (v := 1) hx hb dX6_chain_39 (by decide) ?_
    refine lv_iload_n hx hb dX6_chain_40 rfl (lv_at hl 0 rfl) ?_
    refine lv_ishl hx hb dX6_chain_41 ?_
    refine lv_ior hx hb dX6_chain_42 ?_
    refine lv_istore_n hx hb dX6_chain_43 rfl hl (by decide) rfl (fun ls hl => ?_)
    have hl : lv_has ls 4 [(2, .int (b ||| (1 <<< (q &&& 31)))), (3, .int q), (0, .ref a), (1, .int v1)] := hl
    obtain ⟨fs, hob, hfs⟩ := zobj hG.2.2.2.1 ki di zks_6
    obtain ⟨r22, j22, q22, k22, d22⟩ := zref (f := 22) (k := 47) hfs rfl
    obtain ⟨f22, g22, m22⟩ := zarrI hG.2.2.2.1 k22 d22 (rfl : zKS[47]? = _)
    refine lv_aload_n hx hb dX6_chain_44 rfl (lv_at hl 2 rfl) ?_
    refine zg_RX6 X (50, 6, 22) (by decide) _ zks_6 (by decide) _ _ _ _ _ _ _ i _ (.ref r22) hG.1 hob q22 dX6_chain_45 ?_
    refine lv_iload_n hx hb dX6_chain_48 rfl (lv_at hl 1 rfl) ?_
    refine va_iald hx hb X.2.1.1 hG.1 j22 0 g22 rfl (vp_in_iff.mpr ⟨by omega, by omega⟩) dX6_chain_49 ?_
    have ecq : (q.toNatClampNeg : Int) = q.toInt := tcn (by omega)
    have lq : -1 ≤ (f22 q.toNatClampNeg).toInt ∧ (f22 q.toNatClampNeg).toInt ≤ 6 := m22 _ (by omega)
    refine lv_istore_n hx hb dX6_chain_50 rfl hl (by decide) rfl (fun ls hl => ?_)
    have hl : lv_has ls 4 [(3, .int (f22 (q).toNatClampNeg)), (2, .int (b ||| (1 <<< (q &&& 31)))), (0, .ref a), (1, .int v1)] := hl
    refine lv_goto (tgt := 25) hx hb dX6_chain_51 (by decide) ?_
    exact ih _ _ ls _ H locs (by omega) u2 lq.1 lq.2 (by omega) hl hG
theorem zh_paste6 {l : Launch} {D : va_G} {cI cZ cB cJ cR : ClassId} {ks ad : List Nat} {Psi : va_W → Prop} (hw : zworld ks ad zuq zNS Psi) {d0 : Nat} (hd : d0 ≤ 10) (hS : zMet l D cI cZ cB cJ cR zKS ks ad Psi yX6_isSlot (.code yX6_isSlot cX6_isSlot 1 (some .boolean)) d0 ([(0, (-2147483648), 2147483647)], some (0, 0, 1), [], [], [([(2, 1)], 1, 0, 0), ([(2, 1)], 0, 1, (-3))], [], [])) : zMet l D cI cZ cB cJ cR zKS ks ad Psi yX6_paste (.code yX6_paste cX6_paste 7 (some .int)) 12 ([(8, 0, 0), (0, (-2147483648), 2147483647), (0, (-2147483648), 2147483647), (0, (-2147483648), 2147483647), (0, (-2147483648), 2147483647), (0, (-2147483648), 2147483647)], some (0, (-8), 0), [], [], [], [(6, 0)] ++ zrun 38 1000 1 240, []) := by
  refine zmet_gen 12 (by decide) (Nat.le_of_ble_eq_true rfl) rfl ?_
  intro p e R s m args below meth c Q A ws As ls X hG hok hpre hR hl
  have hx := X.1.1
  have hb := X.1.2.1
  obtain ⟨_, _, rfl, ⟨a, i, rfl, ki, di⟩, hok1⟩ := zst1 hok
  obtain ⟨_, _, rfl, ⟨v1, rfl, lv1⟩, hok2⟩ := zst1 hok1
  obtain ⟨_, _, rfl, ⟨v2, rfl, lv2⟩, hok3⟩ := zst1 hok2
  obtain ⟨_, _, rfl, ⟨v3, rfl, lv3⟩, hok4⟩ := zst1 hok3
  obtain ⟨_, _, rfl, ⟨v4, rfl, lv4⟩, hok5⟩ := zst1 hok4
  obtain ⟨_, _, rfl, ⟨v5, rfl, lv5⟩, hok6⟩ := zst1 hok5
  obtain rfl := zst0 hok6
  dsimp only at lv1 lv2 lv3 lv4 lv5
  obtain ⟨fs, hob, hfs⟩ := zobj hG.2.2.2.1 ki di zks_6
  have hl : lv_has ls 7 [(0, .ref a), (1, .int v1), (2, .int v2), (3, .int v3), (4, .int v4), (5, .int v5)] := hl
  refine lv_aload_n hx hb dX6_paste_0 rfl (lv_at hl 0 rfl) ?_
  refine lv_iconst (v := 0) hx hb dX6_paste_1 (by decide) ?_
  have hvv : zok ks ad (0, 0, 0) (.int 0) := ⟨_, rfl, by decide⟩
  refine zp_RX6 X (71, 6, 0) (by decide) _ (0, 0, 0) zks_6 rfl _ _ _ _ _ _ _ i _ _ hG.1 hG.2.1 hG.2.2.1 hob (zF2_len hfs).symm hvv dX6_paste_2 (fun H locs a1 a2 a3 => ?_)
  have hG := hG.putf hw ki (by decide) zks_6 rfl hob rfl hvv (List.mem_append_left _ List.mem_cons_self) a1 a2 a3
  clear a1 a2 a3 hob hfs
  refine lv_iload_n hx hb dX6_paste_5 rfl (lv_at hl 1 rfl) ?_
  refine zq_RX6_80 X hS (by omega) rfl _ _ [] _ _ _ [.int v1] hG.1 hG.2.1 hG.2.2.1 hG.2.2.2.1 hG.2.2.2.2.1 ⟨⟨_, rfl, bT _⟩, trivial⟩ (by decide) hl.1 (fun _ h => by cases h) dX6_paste_6 (fun H locs w0 r b1 b2 b3 b4 b5 b6 b7 => ?_)
  obtain ⟨_, _, rfl, ⟨z, rfl, lz⟩, b8⟩ := zst1 b7.1
  obtain rfl := zst0 b8
  have hfs2 := b7.2.2
  have hG := hG.next b1 b2 b3 b4 b5 b6 nilz
  clear b1 b2 b3 b4 b5 b6 b7 b8
  dsimp only [List.cons_append, List.nil_append]
  refine lv_if_eq (tgt := 19) hx hb dX6_paste_9 (by decide) (fun _ => ?_) (fun hz => ?_)
  · skip
    refine lv_bipush (v := (-2)) hx hb dX6_paste_19 (by decide) ?_
    exact hR 21 _ _ _ _ [.int (-2)] hG ⟨⟨⟨_, rfl, by decide⟩, trivial⟩, fun _ h => (by cases h), fun _ h => (by cases h)⟩ dX6_paste_21
  obtain ⟨x1, x2, e1, e2, e3⟩ := hfs2 _ List.mem_cons_self (fun q hq r hr => by rw [List.mem_singleton] at hq; subst hq; have hr : some z.toInt = some r := hr; cases hr; exact fun h9 => hz (Int32.toInt_inj.mp h9))
  obtain ⟨x3, x4, e4, e5, e6⟩ := hfs2 _ (List.mem_cons_of_mem _ List.mem_cons_self) (fun q hq r hr => by rw [List.mem_singleton] at hq; subst hq; have hr : some z.toInt = some r := hr; cases hr; exact fun h9 => hz (Int32.toInt_inj.mp h9))
  have e1 : some (v1.toInt) = some x1 := e1
  have e2 : some (0 : Int) = some x2 := e2
  have e4 : some (0 : Int) = some x3 := e4
  have e5 : some (v1.toInt) = some x4 := e5
  cases e1
  cases e2
  cases e4
  cases e5
  dsimp only at e3 e6
  have in1 : 0 ≤ v1.toInt ∧ v1.toInt ≤ 3 := ⟨by omega, by omega⟩
  clear e3 e6 hfs2 hz lz
  refine lv_iload_n hx hb dX6_paste_12 rfl (lv_at hl 3 rfl) ?_
  refine zq_RX6_80 X hS (by omega) rfl _ _ [] _ _ _ [.int v3] hG.1 hG.2.1 hG.2.2.1 hG.2.2.2.1 hG.2.2.2.2.1 ⟨⟨_, rfl, bT _⟩, trivial⟩ (by decide) hl.1 (fun _ h => by cases h) dX6_paste_13 (fun H locs w1 r b1 b2 b3 b4 b5 b6 b7 => ?_)
  obtain ⟨_, _, rfl, ⟨z, rfl, lz⟩, b8⟩ := zst1 b7.1
  obtain rfl := zst0 b8
  have hfs2 := b7.2.2
  have hG := hG.next b1 b2 b3 b4 b5 b6 nilz
  clear b1 b2 b3 b4 b5 b6 b7 b8
  dsimp only [List.cons_append, List.nil_append]
  refine lv_if_ne (tgt := 22) hx hb dX6_paste_16 (by decide) (fun hz => ?_) (fun _ => ?_)
  case refine_2 =>
    refine lv_bipush (v := (-2)) hx hb dX6_paste_19 (by decide) ?_
    exact hR 21 _ _ _ _ [.int (-2)] hG ⟨⟨⟨_, rfl, by decide⟩, trivial⟩, fun _ h => (by cases h), fun _ h => (by cases h)⟩ dX6_paste_21
  obtain ⟨x1, x2, e1, e2, e3⟩ := hfs2 _ List.mem_cons_self (fun q hq r hr => by rw [List.mem_singleton] at hq; subst hq; have hr : some z.toInt = some r := hr; cases hr; exact fun h9 => hz (Int32.toInt_inj.mp h9))
  obtain ⟨x3, x4, e4, e5, e6⟩ := hfs2 _ (List.mem_cons_of_mem _ List.mem_cons_self) (fun q hq r hr => by rw [List.mem_singleton] at hq; subst hq; have hr : some z.toInt = some r := hr; cases hr; exact fun h9 => hz (Int32.toInt_inj.mp h9))
  have e1 : some (v3.toInt) = some x1 := e1
  have e2 : some (0 : Int) = some x2 := e2
  have e4 : some (0 : Int) = some x3 := e4
  have e5 : some (v3.toInt) = some x4 := e5
  cases e1
  cases e2
  cases e4
  cases e5
  dsimp only at e3 e6
  have in2 : 0 ≤ v3.toInt ∧ v3.toInt ≤ 3 := ⟨by omega, by omega⟩
  clear e3 e6 hfs2 hz lz
  obtain ⟨fs, hob, hfs⟩ := zobj hG.2.2.2.1 ki di zks_6
  obtain ⟨r1, j1, q1, k1, d1⟩ := zref (f := 1) (k := 36) hfs rfl
  obtain ⟨r2, j2, q2, k2, d2⟩ := zref (f := 2) (k := 37) hfs rfl
  obtain ⟨f1, g1, m1⟩ := zarrI hG.2.2.2.1 k1 d1 (rfl : zKS[36]? = _)
  obtain ⟨f2, g2, m2⟩ := zarrI hG.2.2.2.1 k2 d2 (rfl : zKS[37]? = _)
  refine lv_aload_n hx hb dX6_paste_22 rfl (lv_at hl 0 rfl) ?_
  refine zg_RX6 X (7, 6, 1) (by decide) _ zks_6 (by decide) _ _ _ _ _ _ _ i _ (.ref r1) hG.1 hob q1 dX6_paste_23 ?_
  refine lv_iload_n hx hb dX6_paste_26 rfl (lv_at hl 1 rfl) ?_
  refine va_iald hx hb X.2.1.1 hG.1 j1 0 g1 rfl (vp_in_iff.mpr ⟨by omega, by omega⟩) dX6_paste_27 ?_
  refine lv_iconst (v := (-1)) hx hb dX6_paste_28 (by decide) ?_
  refine lv_icmp_eq (tgt := 42) hx hb dX6_paste_29 (by decide) (fun _ => ?_) (fun _ => ?_)
  · skip
    refine lv_bipush (v := (-6)) hx hb dX6_paste_42 (by decide) ?_
    exact hR 44 _ _ _ _ [.int (-6)] hG ⟨⟨⟨_, rfl, by decide⟩, trivial⟩, fun _ h => (by cases h), fun _ h => (by cases h)⟩ dX6_paste_44
  refine lv_aload_n hx hb dX6_paste_32 rfl (lv_at hl 0 rfl) ?_
  refine zg_RX6 X (7, 6, 1) (by decide) _ zks_6 (by decide) _ _ _ _ _ _ _ i _ (.ref r1) hG.1 hob q1 dX6_paste_33 ?_
  refine lv_iload_n hx hb dX6_paste_36 rfl (lv_at hl 3 rfl) ?_
  refine va_iald hx hb X.2.1.1 hG.1 j1 0 g1 rfl (vp_in_iff.mpr ⟨by omega, by omega⟩) dX6_paste_37 ?_
  refine lv_iconst (v := (-1)) hx hb dX6_paste_38 (by decide) ?_
  refine lv_icmp_ne (tgt := 45) hx hb dX6_paste_39 (by decide) (fun _ => ?_) (fun _ => ?_)
  case refine_2 =>
    refine lv_bipush (v := (-6)) hx hb dX6_paste_42 (by decide) ?_
    exact hR 44 _ _ _ _ [.int (-6)] hG ⟨⟨⟨_, rfl, by decide⟩, trivial⟩, fun _ h => (by cases h), fun _ h => (by cases h)⟩ dX6_paste_44
  refine lv_aload_n hx hb dX6_paste_45 rfl (lv_at hl 0 rfl) ?_
  refine zg_RX6 X (7, 6, 1) (by decide) _ zks_6 (by decide) _ _ _ _ _ _ _ i _ (.ref r1) hG.1 hob q1 dX6_paste_46 ?_
  refine lv_iload_n hx hb dX6_paste_49 rfl (lv_at hl 1 rfl) ?_
  refine va_iald hx hb X.2.1.1 hG.1 j1 0 g1 rfl (vp_in_iff.mpr ⟨by omega, by omega⟩) dX6_paste_50 ?_
  refine lv_aload_n hx hb dX6_paste_51 rfl (lv_at hl 0 rfl) ?_
  refine zg_RX6 X (7, 6, 1) (by decide) _ zks_6 (by decide) _ _ _ _ _ _ _ i _ (.ref r1) hG.1 hob q1 dX6_paste_52 ?_
  refine lv_iload_n hx hb dX6_paste_55 rfl (lv_at hl 3 rfl) ?_
  refine va_iald hx hb X.2.1.1 hG.1 j1 0 g1 rfl (vp_in_iff.mpr ⟨by omega, by omega⟩) dX6_paste_56 ?_
  refine lv_icmp_eq (tgt := 63) hx hb dX6_paste_57 (by decide) (fun _ => ?_) (fun _ => ?_)
  case refine_2 =>
    refine lv_bipush (v := (-8)) hx hb dX6_paste_60 (by decide) ?_
    exact hR 62 _ _ _ _ [.int (-8)] hG ⟨⟨⟨_, rfl, by decide⟩, trivial⟩, fun _ h => (by cases h), fun _ h => (by cases h)⟩ dX6_paste_62
  refine lv_iload_n hx hb dX6_paste_63 rfl (lv_at hl 2 rfl) ?_
  refine lv_if_lt (tgt := 112) hx hb dX6_paste_64 (by decide) (fun _ => ?_) (fun hv2 => ?_)
  · skip
    refine lv_bipush (v := (-7)) hx hb dX6_paste_112 (by decide) ?_
    exact hR 114 _ _ _ _ [.int (-7)] hG ⟨⟨⟨_, rfl, by decide⟩, trivial⟩, fun _ h => (by cases h), fun _ h => (by cases h)⟩ dX6_paste_114
  simp only [Int32.lt_iff_toInt_lt, Int32.reduceToInt] at hv2
  refine lv_iload hx hb dX6_paste_67 (lv_at hl 4 rfl) ?_
  refine lv_if_lt (tgt := 112) hx hb dX6_paste_69 (by decide) (fun _ => ?_) (fun hv4 => ?_)
  · skip
    refine lv_bipush (v := (-7)) hx hb dX6_paste_112 (by decide) ?_
    exact hR 114 _ _ _ _ [.int (-7)] hG ⟨⟨⟨_, rfl, by decide⟩, trivial⟩, fun _ h => (by cases h), fun _ h => (by cases h)⟩ dX6_paste_114
  simp only [Int32.lt_iff_toInt_lt, Int32.reduceToInt] at hv4
  refine lv_iload hx hb dX6_paste_72 (lv_at hl 5 rfl) ?_
  refine lv_if_lt (tgt := 112) hx hb dX6_paste_74 (by decide) (fun _ => ?_) (fun hv5 => ?_)
  · skip
    refine lv_bipush (v := (-7)) hx hb dX6_paste_112 (by decide) ?_
    exact hR 114 _ _ _ _ [.int (-7)] hG ⟨⟨⟨_, rfl, by decide⟩, trivial⟩, fun _ h => (by cases h), fun _ h => (by cases h)⟩ dX6_paste_114
  simp only [Int32.lt_iff_toInt_lt, Int32.reduceToInt] at hv5
  refine lv_iload_n hx hb dX6_paste_77 rfl (lv_at hl 2 rfl) ?_
  refine lv_i2l hx hb dX6_paste_78 rfl ?_
  refine lv_iload hx hb dX6_paste_79 (lv_at hl 5 rfl) ?_
  refine lv_i2l hx hb dX6_paste_81 rfl ?_
  refine lv_ladd hx hb dX6_paste_82 ?_
  refine lv_aload_n hx hb dX6_paste_83 rfl (lv_at hl 0 rfl) ?_
  refine zg_RX6 X (13, 6, 2) (by decide) _ zks_6 (by decide) _ _ _ _ _ _ _ i _ (.ref r2) hG.1 hob q2 dX6_paste_84 ?_
  refine lv_iload_n hx hb dX6_paste_87 rfl (lv_at hl 1 rfl) ?_
  refine va_iald hx hb X.2.1.1 hG.1 j2 0 g2 rfl (vp_in_iff.mpr ⟨by omega, by omega⟩) dX6_paste_88 ?_
  refine lv_i2l hx hb dX6_paste_89 rfl ?_
  refine W.lcmp hx hb dX6_paste_90 ?_
  have ca0 := tcn (z := v1) in1.1
  have lm0 : (f2 v1.toNatClampNeg).toInt ≤ 60 := (m2 _ (by omega)).2
  have es0 : (v2.toInt64 + v5.toInt64).toInt = v2.toInt + v5.toInt := by rw [addL _ _ (by rw [i2L, i2L]; have := bT v2; have := bT v5; omega), i2L, i2L]
  refine lv_if_gt (tgt := 112) hx hb dX6_paste_91 (by decide) (fun _ => ?_) (fun hc0 => ?_)
  · skip
    refine lv_bipush (v := (-7)) hx hb dX6_paste_112 (by decide) ?_
    exact hR 114 _ _ _ _ [.int (-7)] hG ⟨⟨⟨_, rfl, by decide⟩, trivial⟩, fun _ h => (by cases h), fun _ h => (by cases h)⟩ dX6_paste_114
  have hc0 : v2.toInt + v5.toInt ≤ 60 := by
    have h9 := cmp_le (x := v2.toInt64 + v5.toInt64) (y := (f2 v1.toNatClampNeg).toInt64) (by have := hc0; simp only [gt_iff_lt, Int32.lt_iff_toInt_lt, Int32.reduceToInt] at this; omega)
    rw [es0, i2L] at h9
    omega
  refine lv_iload hx hb dX6_paste_94 (lv_at hl 4 rfl) ?_
  refine lv_i2l hx hb dX6_paste_96 rfl ?_
  refine lv_iload hx hb dX6_paste_97 (lv_at hl 5 rfl) ?_
  refine lv_i2l hx hb dX6_paste_99 rfl ?_
  refine lv_ladd hx hb dX6_paste_100 ?_
  refine lv_aload_n hx hb dX6_paste_101 rfl (lv_at hl 0 rfl) ?_
  refine zg_RX6 X (13, 6, 2) (by decide) _ zks_6 (by decide) _ _ _ _ _ _ _ i _ (.ref r2) hG.1 hob q2 dX6_paste_102 ?_
  refine lv_iload_n hx hb dX6_paste_105 rfl (lv_at hl 3 rfl) ?_
  refine va_iald hx hb X.2.1.1 hG.1 j2 0 g2 rfl (vp_in_iff.mpr ⟨by omega, by omega⟩) dX6_paste_106 ?_
  refine lv_i2l hx hb dX6_paste_107 rfl ?_
  refine W.lcmp hx hb dX6_paste_108 ?_
  have ca1 := tcn (z := v3) in2.1
  have lm1 : (f2 v3.toNatClampNeg).toInt ≤ 60 := (m2 _ (by omega)).2
  have es1 : (v4.toInt64 + v5.toInt64).toInt = v4.toInt + v5.toInt := by rw [addL _ _ (by rw [i2L, i2L]; have := bT v4; have := bT v5; omega), i2L, i2L]
  refine lv_if_le (tgt := 115) hx hb dX6_paste_109 (by decide) (fun hc1 => ?_) (fun _ => ?_)
  case refine_2 =>
    refine lv_bipush (v := (-7)) hx hb dX6_paste_112 (by decide) ?_
    exact hR 114 _ _ _ _ [.int (-7)] hG ⟨⟨⟨_, rfl, by decide⟩, trivial⟩, fun _ h => (by cases h), fun _ h => (by cases h)⟩ dX6_paste_114
  have hc1 : v4.toInt + v5.toInt ≤ 60 := by
    have h9 := cmp_le (x := v4.toInt64 + v5.toInt64) (y := (f2 v3.toNatClampNeg).toInt64) (by have := hc1; simp only [Int32.le_iff_toInt_le, Int32.reduceToInt] at this; omega)
    rw [es1, i2L] at h9
    omega
  have hB : ∀ (k : Nat) (x : Int32) (ls : Array Slot) (w : va_W) (H : Heap) (locs : List Loc), 0 ≤ x.toInt → x.toInt ≤ v5.toInt → (v5.toInt - x.toInt).toNat < k → lv_has ls 7 [(6, .int x), (0, .ref a), (1, .int v1), (2, .int v2), (3, .int v3), (4, .int v4), (5, .int v5)] → zHp D vwCl A s.heap (tyA cI cZ cB cJ cR) zKS ks ad RX0 Psi ([(6, 0)] ++ zrun 38 1000 1 240) ws w H locs → W p l e R s m args below meth c H locs 0 0 Q (F0 m 155 ls []) := by
    intro k
    induction k with
    | zero => intro x ls w H locs h1 h2 hk; exact absurd hk (Nat.not_lt_zero _)
    | succ k ih =>
      intro x ls w H locs h1 h2 hk hl hG
      refine lv_iload hx hb dX6_paste_155 (lv_at hl 0 rfl) ?_
      refine lv_iload hx hb dX6_paste_157 (lv_at hl 6 rfl) ?_
      refine lv_icmp_ge (tgt := 190) hx hb dX6_paste_159 (by decide) (fun _ => ?_) (fun hge => ?_)
      · skip
        refine lv_iconst (v := 0) hx hb dX6_paste_190 (by decide) ?_
        exact hR 191 _ _ _ _ [.int (0)] hG ⟨⟨⟨_, rfl, by decide⟩, trivial⟩, fun _ h => (by cases h), fun _ h => (by cases h)⟩ dX6_paste_191
      · simp only [ge_iff_le, Int32.le_iff_toInt_le] at hge
        obtain ⟨fs, hob, hfs⟩ := zobj hG.2.2.2.1 ki di zks_6
        obtain ⟨r3, j3, q3, k3, d3⟩ := zref (f := 3) (k := 38) hfs rfl
        obtain ⟨r4, j4, q4, k4, d4⟩ := zref (f := 4) (k := 39) hfs rfl
        obtain ⟨f3, g3, m3⟩ := zarrJ hG.2.2.2.1 k3 d3 (rfl : zKS[38]? = _)
        obtain ⟨f4, g4, m4⟩ := zarrJ hG.2.2.2.1 k4 d4 (rfl : zKS[39]? = _)
        refine lv_aload_n hx hb dX6_paste_162 rfl (lv_at hl 1 rfl) ?_
        refine zg_RX6 X (16, 6, 3) (by decide) _ zks_6 (by decide) _ _ _ _ _ _ _ i _ (.ref r3) hG.1 hob q3 dX6_paste_163 ?_
        refine lv_bipush (v := 60) hx hb dX6_paste_166 (by decide) ?_
        refine lv_iload_n hx hb dX6_paste_168 rfl (lv_at hl 4 rfl) ?_
        refine lv_imul hx hb dX6_paste_169 ?_
        refine lv_topi (fun t1 ht1 => ?_)
        have et1 : t1.toInt = 60 * v3.toInt := by rw [ht1, mulI _ _ (by simp only [Int32.reduceToInt]; omega)]; rfl
        refine lv_iload hx hb dX6_paste_170 (lv_at hl 5 rfl) ?_
        refine lv_iadd hx hb dX6_paste_172 ?_
        refine lv_topi (fun t2 ht2 => ?_)
        have et2 : t2.toInt = 60 * v3.toInt + v4.toInt := by rw [ht2, addI _ _ (by omega), et1]
        refine lv_iload hx hb dX6_paste_173 (lv_at hl 0 rfl) ?_
        refine lv_iadd hx hb dX6_paste_175 ?_
        refine lv_topi (fun t3 ht3 => ?_)
        have et3 : t3.toInt = 60 * v3.toInt + v4.toInt + x.toInt := by rw [ht3, addI _ _ (by omega), et2]
        have ct3 := tcn (z := t3) (by omega)
        refine lv_aload_n hx hb dX6_paste_176 rfl (lv_at hl 1 rfl) ?_
        refine zg_RX6 X (20, 6, 4) (by decide) _ zks_6 (by decide) _ _ _ _ _ _ _ i _ (.ref r4) hG.1 hob q4 dX6_paste_177 ?_
        refine lv_iload hx hb dX6_paste_180 (lv_at hl 0 rfl) ?_
        have cx := tcn (z := x) h1
        refine va_lald hx hb X.2.1.1 hG.1 j4 3 g4 rfl (vp_in_iff.mpr ⟨by omega, by omega⟩) dX6_paste_182 ?_
        refine va_last hx hb X.2.1.1 hG.1 hG.2.1 hG.2.2.1 j3 3 g3 rfl (vp_in_iff.mpr ⟨by omega, by omega⟩) dX6_paste_183 (fun H locs a1 a2 a3 => ?_)
        have hG := hG.stL hw k3 (by decide) g3 rfl (Or.inr (fun q hq => List.mem_append_right _ (zrun_mem hq))) (fun q hq => by unfold vp_updL; rw [if_neg (by omega)]) a1 a2 a3
        clear a1 a2 a3
        refine lv_iinc (k := 0) hx hb dX6_paste_184 hl rfl rfl (by decide) rfl (fun ls hl => ?_)
        have hl : lv_has ls 7 [(6, .int (x + Int32.ofInt 1)), (0, .ref a), (1, .int v1), (2, .int v2), (3, .int v3), (4, .int v4), (5, .int v5)] := hl
        refine lv_goto (tgt := 155) hx hb dX6_paste_187 (by decide) ?_
        have e3 : (x + Int32.ofInt 1).toInt = x.toInt + 1 := by rw [addI _ _ (by rw [show (Int32.ofInt 1).toInt = 1 from by decide]; omega)]; rfl
        exact ih _ ls _ H locs (by omega) (by omega) (by omega) hl hG
  have hA : ∀ (k : Nat) (x : Int32) (ls : Array Slot) (w : va_W) (H : Heap) (locs : List Loc), 0 ≤ x.toInt → x.toInt ≤ v5.toInt → (v5.toInt - x.toInt).toNat < k → lv_has ls 7 [(6, .int x), (0, .ref a), (1, .int v1), (2, .int v2), (3, .int v3), (4, .int v4), (5, .int v5)] → zHp D vwCl A s.heap (tyA cI cZ cB cJ cR) zKS ks ad RX0 Psi ([(6, 0)] ++ zrun 38 1000 1 240) ws w H locs → W p l e R s m args below meth c H locs 0 0 Q (F0 m 118 ls []) := by
    intro k
    induction k with
    | zero => intro x ls w H locs h1 h2 hk; exact absurd hk (Nat.not_lt_zero _)
    | succ k ih =>
      intro x ls w H locs h1 h2 hk hl hG
      refine lv_iload hx hb dX6_paste_118 (lv_at hl 0 rfl) ?_
      refine lv_iload hx hb dX6_paste_120 (lv_at hl 6 rfl) ?_
      refine lv_icmp_ge (tgt := 152) hx hb dX6_paste_122 (by decide) (fun _ => ?_) (fun hge => ?_)
      · skip
        refine lv_iconst (v := 0) hx hb dX6_paste_152 (by decide) ?_
        refine lv_istore hx hb dX6_paste_153 hl (by decide) rfl (fun ls hl => ?_)
        have hl : lv_has ls 7 [(6, .int 0), (0, .ref a), (1, .int v1), (2, .int v2), (3, .int v3), (4, .int v4), (5, .int v5)] := hl
        exact hB _ _ ls _ _ _ (by decide) (by have : (0 : Int32).toInt = 0 := rfl; omega) (Nat.lt_succ_self _) hl hG
      · simp only [ge_iff_le, Int32.le_iff_toInt_le] at hge
        obtain ⟨fs, hob, hfs⟩ := zobj hG.2.2.2.1 ki di zks_6
        obtain ⟨r3, j3, q3, k3, d3⟩ := zref (f := 3) (k := 38) hfs rfl
        obtain ⟨r4, j4, q4, k4, d4⟩ := zref (f := 4) (k := 39) hfs rfl
        obtain ⟨f3, g3, m3⟩ := zarrJ hG.2.2.2.1 k3 d3 (rfl : zKS[38]? = _)
        obtain ⟨f4, g4, m4⟩ := zarrJ hG.2.2.2.1 k4 d4 (rfl : zKS[39]? = _)
        refine lv_aload_n hx hb dX6_paste_125 rfl (lv_at hl 1 rfl) ?_
        refine zg_RX6 X (20, 6, 4) (by decide) _ zks_6 (by decide) _ _ _ _ _ _ _ i _ (.ref r4) hG.1 hob q4 dX6_paste_126 ?_
        refine lv_iload hx hb dX6_paste_129 (lv_at hl 0 rfl) ?_
        refine lv_aload_n hx hb dX6_paste_131 rfl (lv_at hl 1 rfl) ?_
        refine zg_RX6 X (16, 6, 3) (by decide) _ zks_6 (by decide) _ _ _ _ _ _ _ i _ (.ref r3) hG.1 hob q3 dX6_paste_132 ?_
        refine lv_bipush (v := 60) hx hb dX6_paste_135 (by decide) ?_
        refine lv_iload_n hx hb dX6_paste_137 rfl (lv_at hl 2 rfl) ?_
        refine lv_imul hx hb dX6_paste_138 ?_
        refine lv_topi (fun t1 ht1 => ?_)
        have et1 : t1.toInt = 60 * v1.toInt := by rw [ht1, mulI _ _ (by simp only [Int32.reduceToInt]; omega)]; rfl
        refine lv_iload_n hx hb dX6_paste_139 rfl (lv_at hl 3 rfl) ?_
        refine lv_iadd hx hb dX6_paste_140 ?_
        refine lv_topi (fun t2 ht2 => ?_)
        have et2 : t2.toInt = 60 * v1.toInt + v2.toInt := by rw [ht2, addI _ _ (by omega), et1]
        refine lv_iload hx hb dX6_paste_141 (lv_at hl 0 rfl) ?_
        refine lv_iadd hx hb dX6_paste_143 ?_
        refine lv_topi (fun t3 ht3 => ?_)
        have et3 : t3.toInt = 60 * v1.toInt + v2.toInt + x.toInt := by rw [ht3, addI _ _ (by omega), et2]
        have ct3 := tcn (z := t3) (by omega)
        have cx := tcn (z := x) h1
        refine va_lald hx hb X.2.1.1 hG.1 j3 3 g3 rfl (vp_in_iff.mpr ⟨by omega, by omega⟩) dX6_paste_144 ?_
        refine va_last hx hb X.2.1.1 hG.1 hG.2.1 hG.2.2.1 j4 3 g4 rfl (vp_in_iff.mpr ⟨by omega, by omega⟩) dX6_paste_145 (fun H locs a1 a2 a3 => ?_)
        have hG := hG.stL hw k4 (by decide) g4 rfl (Or.inl (by decide)) (fun q hq => by unfold vp_updL; rw [if_neg (by omega)]) a1 a2 a3
        clear a1 a2 a3
        refine lv_iinc (k := 0) hx hb dX6_paste_146 hl rfl rfl (by decide) rfl (fun ls hl => ?_)
        have hl : lv_has ls 7 [(6, .int (x + Int32.ofInt 1)), (0, .ref a), (1, .int v1), (2, .int v2), (3, .int v3), (4, .int v4), (5, .int v5)] := hl
        refine lv_goto (tgt := 118) hx hb dX6_paste_149 (by decide) ?_
        have e3 : (x + Int32.ofInt 1).toInt = x.toInt + 1 := by rw [addI _ _ (by rw [show (Int32.ofInt 1).toInt = 1 from by decide]; omega)]; rfl
        exact ih _ ls _ H locs (by omega) (by omega) (by omega) hl hG
  refine lv_iconst (v := 0) hx hb dX6_paste_115 (by decide) ?_
  refine lv_istore hx hb dX6_paste_116 hl (by decide) rfl (fun ls hl => ?_)
  have hl : lv_has ls 7 [(6, .int 0), (0, .ref a), (1, .int v1), (2, .int v2), (3, .int v3), (4, .int v4), (5, .int v5)] := hl
  exact hA _ _ ls _ _ _ (by decide) (by have : (0 : Int32).toInt = 0 := rfl; omega) (Nat.lt_succ_self _) hl hG
