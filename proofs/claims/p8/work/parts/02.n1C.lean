theorem dX3_init_0 : decode cX3_init 0 = .ok (.aload_n 0, 1) := by decide +kernel
theorem dX3_init_1 : decode cX3_init 1 = .ok (.invokespecial 3, 3) := by decide +kernel
theorem dX3_init_4 : decode cX3_init 4 = .ok (.aload_n 0, 1) := by decide +kernel
theorem dX3_init_5 : decode cX3_init 5 = .ok (.bipush 40, 2) := by decide +kernel
theorem dX3_init_7 : decode cX3_init 7 = .ok (.sipush 160, 3) := by decide +kernel
theorem dX3_init_10 : decode cX3_init 10 = .ok (.multianewarray 9 2, 4) := by decide +kernel
theorem dX3_init_14 : decode cX3_init 14 = .ok (.putfield 11, 3) := by decide +kernel
theorem dX3_init_17 : decode cX3_init 17 = .ok (.aload_n 0, 1) := by decide +kernel
theorem dX3_init_18 : decode cX3_init 18 = .ok (.iconst 0, 1) := by decide +kernel
theorem dX3_init_19 : decode cX3_init 19 = .ok (.putfield 16, 3) := by decide +kernel
theorem dX3_init_22 : decode cX3_init 22 = .ok (.aload_n 0, 1) := by decide +kernel
theorem dX3_init_23 : decode cX3_init 23 = .ok (.bipush 40, 2) := by decide +kernel
theorem dX3_init_25 : decode cX3_init 25 = .ok (.newarray .byte, 2) := by decide +kernel
theorem dX3_init_27 : decode cX3_init 27 = .ok (.putfield 20, 3) := by decide +kernel
theorem dX3_init_30 : decode cX3_init 30 = .ok (.aload_n 0, 1) := by decide +kernel
theorem dX3_init_31 : decode cX3_init 31 = .ok (.sipush 160, 3) := by decide +kernel
theorem dX3_init_34 : decode cX3_init 34 = .ok (.newarray .long, 2) := by decide +kernel
theorem dX3_init_36 : decode cX3_init 36 = .ok (.putfield 24, 3) := by decide +kernel
theorem dX3_init_39 : decode cX3_init 39 = .ok (.aload_n 0, 1) := by decide +kernel
theorem dX3_init_40 : decode cX3_init 40 = .ok (.bipush 40, 2) := by decide +kernel
theorem dX3_init_42 : decode cX3_init 42 = .ok (.bipush 40, 2) := by decide +kernel
theorem dX3_init_44 : decode cX3_init 44 = .ok (.multianewarray 28 2, 4) := by decide +kernel
theorem dX3_init_48 : decode cX3_init 48 = .ok (.putfield 30, 3) := by decide +kernel
theorem dX3_init_51 : decode cX3_init 51 = .ok (.aload_n 0, 1) := by decide +kernel
theorem dX3_init_52 : decode cX3_init 52 = .ok (.bipush 40, 2) := by decide +kernel
theorem dX3_init_54 : decode cX3_init 54 = .ok (.bipush 40, 2) := by decide +kernel
theorem dX3_init_56 : decode cX3_init 56 = .ok (.multianewarray 9 2, 4) := by decide +kernel
theorem dX3_init_60 : decode cX3_init 60 = .ok (.putfield 33, 3) := by decide +kernel
theorem dX3_init_63 : decode cX3_init 63 = .ok (.aload_n 0, 1) := by decide +kernel
theorem dX3_init_64 : decode cX3_init 64 = .ok (.bipush 40, 2) := by decide +kernel
theorem dX3_init_66 : decode cX3_init 66 = .ok (.sipush 144, 3) := by decide +kernel
theorem dX3_init_69 : decode cX3_init 69 = .ok (.multianewarray 28 2, 4) := by decide +kernel
theorem dX3_init_73 : decode cX3_init 73 = .ok (.putfield 36, 3) := by decide +kernel
theorem dX3_init_76 : decode cX3_init 76 = .ok (.aload_n 0, 1) := by decide +kernel
theorem dX3_init_77 : decode cX3_init 77 = .ok (.bipush 40, 2) := by decide +kernel
theorem dX3_init_79 : decode cX3_init 79 = .ok (.sipush 144, 3) := by decide +kernel
theorem dX3_init_82 : decode cX3_init 82 = .ok (.multianewarray 9 2, 4) := by decide +kernel
theorem dX3_init_86 : decode cX3_init 86 = .ok (.putfield 39, 3) := by decide +kernel
theorem dX3_init_89 : decode cX3_init 89 = .ok (.aload_n 0, 1) := by decide +kernel
theorem dX3_init_90 : decode cX3_init 90 = .ok (.iconst 0, 1) := by decide +kernel
theorem dX3_init_91 : decode cX3_init 91 = .ok (.putfield 42, 3) := by decide +kernel
theorem dX3_init_94 : decode cX3_init 94 = .ok (.aload_n 0, 1) := by decide +kernel
theorem dX3_init_95 : decode cX3_init 95 = .ok (.bipush 36, 2) := by decide +kernel
theorem dX3_init_97 : decode cX3_init 97 = .ok (.newarray .boolean, 2) := by decide +kernel
theorem dX3_init_99 : decode cX3_init 99 = .ok (.putfield 45, 3) := by decide +kernel
theorem dX3_init_102 : decode cX3_init 102 = .ok (.aload_n 0, 1) := by decide +kernel
theorem dX3_init_103 : decode cX3_init 103 = .ok (.aload_n 1, 1) := by decide +kernel
theorem dX3_init_104 : decode cX3_init 104 = .ok (.putfield 49, 3) := by decide +kernel
theorem dX3_init_107 : decode cX3_init 107 = .ok (.return_, 1) := by decide +kernel
theorem dX3_setLine_0 : decode cX3_setLine 0 = .ok (.aload_n 0, 1) := by decide +kernel
theorem dX3_setLine_1 : decode cX3_setLine 1 = .ok (.iload_n 2, 1) := by decide +kernel
theorem dX3_setLine_2 : decode cX3_setLine 2 = .ok (.bipush 40, 2) := by decide +kernel
theorem dX3_setLine_4 : decode cX3_setLine 4 = .ok (.invokestatic 53, 3) := by decide +kernel
theorem dX3_setLine_7 : decode cX3_setLine 7 = .ok (.putfield 16, 3) := by decide +kernel
theorem dX3_setLine_10 : decode cX3_setLine 10 = .ok (.iconst 0, 1) := by decide +kernel
theorem dX3_setLine_11 : decode cX3_setLine 11 = .ok (.istore 4, 2) := by decide +kernel
theorem dX3_setLine_13 : decode cX3_setLine 13 = .ok (.iload 4, 2) := by decide +kernel
theorem dX3_setLine_15 : decode cX3_setLine 15 = .ok (.aload_n 0, 1) := by decide +kernel
theorem dX3_setLine_16 : decode cX3_setLine 16 = .ok (.getfield 16, 3) := by decide +kernel
theorem dX3_setLine_19 : decode cX3_setLine 19 = .ok (.if_icmp .ge 20, 3) := by decide +kernel
theorem dX3_setLine_22 : decode cX3_setLine 22 = .ok (.aload_n 0, 1) := by decide +kernel
theorem dX3_setLine_23 : decode cX3_setLine 23 = .ok (.getfield 20, 3) := by decide +kernel
theorem dX3_setLine_26 : decode cX3_setLine 26 = .ok (.iload 4, 2) := by decide +kernel
theorem dX3_setLine_28 : decode cX3_setLine 28 = .ok (.aload_n 1, 1) := by decide +kernel
theorem dX3_setLine_29 : decode cX3_setLine 29 = .ok (.iload 4, 2) := by decide +kernel
theorem dX3_setLine_31 : decode cX3_setLine 31 = .ok (.baload, 1) := by decide +kernel
theorem dX3_setLine_32 : decode cX3_setLine 32 = .ok (.bastore, 1) := by decide +kernel
theorem dX3_setLine_33 : decode cX3_setLine 33 = .ok (.iinc 4 1, 3) := by decide +kernel
theorem dX3_setLine_36 : decode cX3_setLine 36 = .ok (.goto (-23), 3) := by decide +kernel
theorem dX3_setLine_39 : decode cX3_setLine 39 = .ok (.aload_n 0, 1) := by decide +kernel
theorem dX3_setLine_40 : decode cX3_setLine 40 = .ok (.aload_n 0, 1) := by decide +kernel
theorem dX3_setLine_41 : decode cX3_setLine 41 = .ok (.getfield 49, 3) := by decide +kernel
theorem dX3_setLine_44 : decode cX3_setLine 44 = .ok (.iload_n 3, 1) := by decide +kernel
theorem dX3_setLine_45 : decode cX3_setLine 45 = .ok (.invokevirtual 59, 3) := by decide +kernel
theorem dX3_setLine_48 : decode cX3_setLine 48 = .ok (.putfield 42, 3) := by decide +kernel
theorem dX3_setLine_51 : decode cX3_setLine 51 = .ok (.return_, 1) := by decide +kernel
theorem dX3_fill_0 : decode cX3_fill 0 = .ok (.iconst 0, 1) := by decide +kernel
theorem dX3_fill_1 : decode cX3_fill 1 = .ok (.istore_n 2, 1) := by decide +kernel
theorem dX3_fill_2 : decode cX3_fill 2 = .ok (.iload_n 2, 1) := by decide +kernel
theorem dX3_fill_3 : decode cX3_fill 3 = .ok (.bipush 36, 2) := by decide +kernel
theorem dX3_fill_5 : decode cX3_fill 5 = .ok (.if_icmp .ge 36, 3) := by decide +kernel
theorem dX3_fill_8 : decode cX3_fill 8 = .ok (.aload_n 0, 1) := by decide +kernel
theorem dX3_fill_9 : decode cX3_fill 9 = .ok (.getfield 45, 3) := by decide +kernel
theorem dX3_fill_12 : decode cX3_fill 12 = .ok (.iload_n 2, 1) := by decide +kernel
theorem dX3_fill_13 : decode cX3_fill 13 = .ok (.iload_n 1, 1) := by decide +kernel
theorem dX3_fill_14 : decode cX3_fill 14 = .ok (.ifCond .eq 19, 3) := by decide +kernel
theorem dX3_fill_17 : decode cX3_fill 17 = .ok (.aload_n 0, 1) := by decide +kernel
theorem dX3_fill_18 : decode cX3_fill 18 = .ok (.getfield 49, 3) := by decide +kernel
theorem dX3_fill_21 : decode cX3_fill 21 = .ok (.getfield 65, 3) := by decide +kernel
theorem dX3_fill_24 : decode cX3_fill 24 = .ok (.iload_n 2, 1) := by decide +kernel
theorem dX3_fill_25 : decode cX3_fill 25 = .ok (.baload, 1) := by decide +kernel
theorem dX3_fill_26 : decode cX3_fill 26 = .ok (.ifCond .eq 7, 3) := by decide +kernel
theorem dX3_fill_29 : decode cX3_fill 29 = .ok (.iconst 1, 1) := by decide +kernel
theorem dX3_fill_30 : decode cX3_fill 30 = .ok (.goto 4, 3) := by decide +kernel
theorem dX3_fill_33 : decode cX3_fill 33 = .ok (.iconst 0, 1) := by decide +kernel
theorem dX3_fill_34 : decode cX3_fill 34 = .ok (.bastore, 1) := by decide +kernel
theorem dX3_fill_35 : decode cX3_fill 35 = .ok (.iinc 2 1, 3) := by decide +kernel
theorem dX3_fill_38 : decode cX3_fill 38 = .ok (.goto (-36), 3) := by decide +kernel
theorem dX3_fill_41 : decode cX3_fill 41 = .ok (.aload_n 0, 1) := by decide +kernel
theorem dX3_fill_42 : decode cX3_fill 42 = .ok (.getfield 16, 3) := by decide +kernel
theorem dX3_fill_45 : decode cX3_fill 45 = .ok (.iconst 1, 1) := by decide +kernel
theorem dX3_fill_46 : decode cX3_fill 46 = .ok (.isub, 1) := by decide +kernel
theorem dX3_fill_47 : decode cX3_fill 47 = .ok (.istore_n 2, 1) := by decide +kernel
theorem dX3_fill_48 : decode cX3_fill 48 = .ok (.iload_n 2, 1) := by decide +kernel
theorem dX3_fill_49 : decode cX3_fill 49 = .ok (.ifCond .lt 98, 3) := by decide +kernel
theorem dX3_fill_52 : decode cX3_fill 52 = .ok (.aload_n 0, 1) := by decide +kernel
theorem dX3_fill_53 : decode cX3_fill 53 = .ok (.getfield 30, 3) := by decide +kernel
theorem dX3_fill_56 : decode cX3_fill 56 = .ok (.iload_n 2, 1) := by decide +kernel
theorem dX3_fill_57 : decode cX3_fill 57 = .ok (.aaload, 1) := by decide +kernel
theorem dX3_fill_58 : decode cX3_fill 58 = .ok (.lconst 0, 1) := by decide +kernel
theorem dX3_fill_59 : decode cX3_fill 59 = .ok (.invokestatic 68, 3) := by decide +kernel
theorem dX3_fill_62 : decode cX3_fill 62 = .ok (.aload_n 0, 1) := by decide +kernel
theorem dX3_fill_63 : decode cX3_fill 63 = .ok (.getfield 33, 3) := by decide +kernel
theorem dX3_fill_66 : decode cX3_fill 66 = .ok (.iload_n 2, 1) := by decide +kernel
theorem dX3_fill_67 : decode cX3_fill 67 = .ok (.aaload, 1) := by decide +kernel
theorem dX3_fill_68 : decode cX3_fill 68 = .ok (.ldc 74, 2) := by decide +kernel
theorem dX3_fill_70 : decode cX3_fill 70 = .ok (.invokestatic 75, 3) := by decide +kernel
theorem dX3_fill_73 : decode cX3_fill 73 = .ok (.aload_n 0, 1) := by decide +kernel
theorem dX3_fill_74 : decode cX3_fill 74 = .ok (.getfield 36, 3) := by decide +kernel
theorem dX3_fill_77 : decode cX3_fill 77 = .ok (.iload_n 2, 1) := by decide +kernel
theorem dX3_fill_78 : decode cX3_fill 78 = .ok (.aaload, 1) := by decide +kernel
theorem dX3_fill_79 : decode cX3_fill 79 = .ok (.lconst 0, 1) := by decide +kernel
theorem dX3_fill_80 : decode cX3_fill 80 = .ok (.invokestatic 68, 3) := by decide +kernel
theorem dX3_fill_83 : decode cX3_fill 83 = .ok (.aload_n 0, 1) := by decide +kernel
theorem dX3_fill_84 : decode cX3_fill 84 = .ok (.getfield 39, 3) := by decide +kernel
theorem dX3_fill_87 : decode cX3_fill 87 = .ok (.iload_n 2, 1) := by decide +kernel
theorem dX3_fill_88 : decode cX3_fill 88 = .ok (.aaload, 1) := by decide +kernel
theorem dX3_fill_89 : decode cX3_fill 89 = .ok (.ldc 74, 2) := by decide +kernel
theorem dX3_fill_91 : decode cX3_fill 91 = .ok (.invokestatic 75, 3) := by decide +kernel
theorem dX3_fill_94 : decode cX3_fill 94 = .ok (.iconst 0, 1) := by decide +kernel
theorem dX3_fill_95 : decode cX3_fill 95 = .ok (.istore_n 3, 1) := by decide +kernel
theorem dX3_fill_96 : decode cX3_fill 96 = .ok (.iload_n 3, 1) := by decide +kernel
theorem dX3_fill_97 : decode cX3_fill 97 = .ok (.aload_n 0, 1) := by decide +kernel
theorem dX3_fill_98 : decode cX3_fill 98 = .ok (.getfield 49, 3) := by decide +kernel
theorem dX3_fill_101 : decode cX3_fill 101 = .ok (.getfield 78, 3) := by decide +kernel
theorem dX3_fill_104 : decode cX3_fill 104 = .ok (.if_icmp .ge 37, 3) := by decide +kernel
theorem dX3_fill_107 : decode cX3_fill 107 = .ok (.aload_n 0, 1) := by decide +kernel
theorem dX3_fill_108 : decode cX3_fill 108 = .ok (.iload_n 2, 1) := by decide +kernel
theorem dX3_fill_109 : decode cX3_fill 109 = .ok (.aload_n 0, 1) := by decide +kernel
theorem dX3_fill_110 : decode cX3_fill 110 = .ok (.getfield 49, 3) := by decide +kernel
theorem dX3_fill_113 : decode cX3_fill 113 = .ok (.getfield 81, 3) := by decide +kernel
theorem dX3_fill_116 : decode cX3_fill 116 = .ok (.iload_n 3, 1) := by decide +kernel
theorem dX3_fill_117 : decode cX3_fill 117 = .ok (.aaload, 1) := by decide +kernel
theorem dX3_fill_118 : decode cX3_fill 118 = .ok (.invokevirtual 85, 3) := by decide +kernel
theorem dX3_fill_121 : decode cX3_fill 121 = .ok (.aload_n 0, 1) := by decide +kernel
theorem dX3_fill_122 : decode cX3_fill 122 = .ok (.iload_n 2, 1) := by decide +kernel
theorem dX3_fill_123 : decode cX3_fill 123 = .ok (.aload_n 0, 1) := by decide +kernel
theorem dX3_fill_124 : decode cX3_fill 124 = .ok (.getfield 49, 3) := by decide +kernel
theorem dX3_fill_127 : decode cX3_fill 127 = .ok (.getfield 81, 3) := by decide +kernel
theorem dX3_fill_130 : decode cX3_fill 130 = .ok (.iload_n 3, 1) := by decide +kernel
theorem dX3_fill_131 : decode cX3_fill 131 = .ok (.aaload, 1) := by decide +kernel
theorem dX3_fill_132 : decode cX3_fill 132 = .ok (.invokevirtual 89, 3) := by decide +kernel
theorem dX3_fill_135 : decode cX3_fill 135 = .ok (.iinc 3 1, 3) := by decide +kernel
theorem dX3_fill_138 : decode cX3_fill 138 = .ok (.goto (-42), 3) := by decide +kernel
theorem dX3_fill_141 : decode cX3_fill 141 = .ok (.iinc 2 (-1), 3) := by decide +kernel
theorem dX3_fill_144 : decode cX3_fill 144 = .ok (.goto (-96), 3) := by decide +kernel
theorem dX3_fill_147 : decode cX3_fill 147 = .ok (.lconst 0, 1) := by decide +kernel
theorem dX3_fill_148 : decode cX3_fill 148 = .ok (.lstore_n 2, 1) := by decide +kernel
theorem dX3_fill_149 : decode cX3_fill 149 = .ok (.iconst 0, 1) := by decide +kernel
theorem dX3_fill_150 : decode cX3_fill 150 = .ok (.istore 4, 2) := by decide +kernel
theorem dX3_fill_152 : decode cX3_fill 152 = .ok (.iload 4, 2) := by decide +kernel
theorem dX3_fill_154 : decode cX3_fill 154 = .ok (.aload_n 0, 1) := by decide +kernel
theorem dX3_fill_155 : decode cX3_fill 155 = .ok (.getfield 49, 3) := by decide +kernel
theorem dX3_fill_158 : decode cX3_fill 158 = .ok (.getfield 78, 3) := by decide +kernel
theorem dX3_fill_161 : decode cX3_fill 161 = .ok (.if_icmp .ge 24, 3) := by decide +kernel
theorem dX3_fill_164 : decode cX3_fill 164 = .ok (.lload_n 2, 1) := by decide +kernel
theorem dX3_fill_165 : decode cX3_fill 165 = .ok (.aload_n 0, 1) := by decide +kernel
theorem dX3_fill_166 : decode cX3_fill 166 = .ok (.getfield 24, 3) := by decide +kernel
theorem dX3_fill_169 : decode cX3_fill 169 = .ok (.iload 4, 2) := by decide +kernel
theorem dX3_fill_171 : decode cX3_fill 171 = .ok (.iconst 4, 1) := by decide +kernel
theorem dX3_fill_172 : decode cX3_fill 172 = .ok (.imul, 1) := by decide +kernel
theorem dX3_fill_173 : decode cX3_fill 173 = .ok (.laload, 1) := by decide +kernel
theorem dX3_fill_174 : decode cX3_fill 174 = .ok (.ladd, 1) := by decide +kernel
theorem dX3_fill_175 : decode cX3_fill 175 = .ok (.invokestatic 92, 3) := by decide +kernel
theorem dX3_fill_178 : decode cX3_fill 178 = .ok (.lstore_n 2, 1) := by decide +kernel
theorem dX3_fill_179 : decode cX3_fill 179 = .ok (.iinc 4 1, 3) := by decide +kernel
theorem dX3_fill_182 : decode cX3_fill 182 = .ok (.goto (-30), 3) := by decide +kernel
theorem dX3_fill_185 : decode cX3_fill 185 = .ok (.lload_n 2, 1) := by decide +kernel
theorem dX3_fill_186 : decode cX3_fill 186 = .ok (.lreturn, 1) := by decide +kernel
theorem dX3_setForm_0 : decode cX3_setForm 0 = .ok (.iconst 0, 1) := by decide +kernel
theorem dX3_setForm_1 : decode cX3_setForm 1 = .ok (.istore_n 3, 1) := by decide +kernel
theorem dX3_setForm_2 : decode cX3_setForm 2 = .ok (.iload_n 3, 1) := by decide +kernel
theorem dX3_setForm_3 : decode cX3_setForm 3 = .ok (.iconst 4, 1) := by decide +kernel
theorem dX3_setForm_4 : decode cX3_setForm 4 = .ok (.if_icmp .ge 70, 3) := by decide +kernel
theorem dX3_setForm_7 : decode cX3_setForm 7 = .ok (.aload_n 2, 1) := by decide +kernel
theorem dX3_setForm_8 : decode cX3_setForm 8 = .ok (.getfield 96, 3) := by decide +kernel
theorem dX3_setForm_11 : decode cX3_setForm 11 = .ok (.iconst 4, 1) := by decide +kernel
theorem dX3_setForm_12 : decode cX3_setForm 12 = .ok (.imul, 1) := by decide +kernel
theorem dX3_setForm_13 : decode cX3_setForm 13 = .ok (.iload_n 3, 1) := by decide +kernel
theorem dX3_setForm_14 : decode cX3_setForm 14 = .ok (.iadd, 1) := by decide +kernel
theorem dX3_setForm_15 : decode cX3_setForm 15 = .ok (.istore 4, 2) := by decide +kernel
theorem dX3_setForm_17 : decode cX3_setForm 17 = .ok (.aload_n 0, 1) := by decide +kernel
theorem dX3_setForm_18 : decode cX3_setForm 18 = .ok (.getfield 24, 3) := by decide +kernel
theorem dX3_setForm_21 : decode cX3_setForm 21 = .ok (.iload 4, 2) := by decide +kernel
theorem dX3_setForm_23 : decode cX3_setForm 23 = .ok (.lconst 0, 1) := by decide +kernel
theorem dX3_setForm_24 : decode cX3_setForm 24 = .ok (.lastore, 1) := by decide +kernel
theorem dX3_setForm_25 : decode cX3_setForm 25 = .ok (.aload_n 0, 1) := by decide +kernel
theorem dX3_setForm_26 : decode cX3_setForm 26 = .ok (.getfield 11, 3) := by decide +kernel
theorem dX3_setForm_29 : decode cX3_setForm 29 = .ok (.iload_n 1, 1) := by decide +kernel
theorem dX3_setForm_30 : decode cX3_setForm 30 = .ok (.aaload, 1) := by decide +kernel
theorem dX3_setForm_31 : decode cX3_setForm 31 = .ok (.iload 4, 2) := by decide +kernel
theorem dX3_setForm_33 : decode cX3_setForm 33 = .ok (.ldc 74, 2) := by decide +kernel
theorem dX3_setForm_35 : decode cX3_setForm 35 = .ok (.iastore, 1) := by decide +kernel
theorem dX3_setForm_36 : decode cX3_setForm 36 = .ok (.aload_n 0, 1) := by decide +kernel
theorem dX3_setForm_37 : decode cX3_setForm 37 = .ok (.iload_n 1, 1) := by decide +kernel
theorem dX3_setForm_38 : decode cX3_setForm 38 = .ok (.aload_n 2, 1) := by decide +kernel
theorem dX3_setForm_39 : decode cX3_setForm 39 = .ok (.iload_n 3, 1) := by decide +kernel
theorem dX3_setForm_40 : decode cX3_setForm 40 = .ok (.invokevirtual 101, 3) := by decide +kernel
theorem dX3_setForm_43 : decode cX3_setForm 43 = .ok (.istore 5, 2) := by decide +kernel
theorem dX3_setForm_45 : decode cX3_setForm 45 = .ok (.iload 5, 2) := by decide +kernel
theorem dX3_setForm_47 : decode cX3_setForm 47 = .ok (.ifCond .le 21, 3) := by decide +kernel
theorem dX3_setForm_50 : decode cX3_setForm 50 = .ok (.aload_n 0, 1) := by decide +kernel
theorem dX3_setForm_51 : decode cX3_setForm 51 = .ok (.iload_n 1, 1) := by decide +kernel
theorem dX3_setForm_52 : decode cX3_setForm 52 = .ok (.aload_n 2, 1) := by decide +kernel
theorem dX3_setForm_53 : decode cX3_setForm 53 = .ok (.iload_n 3, 1) := by decide +kernel
theorem dX3_setForm_54 : decode cX3_setForm 54 = .ok (.iload 5, 2) := by decide +kernel
theorem dX3_setForm_56 : decode cX3_setForm 56 = .ok (.invokevirtual 105, 3) := by decide +kernel
theorem dX3_setForm_59 : decode cX3_setForm 59 = .ok (.aload_n 0, 1) := by decide +kernel
theorem dX3_setForm_60 : decode cX3_setForm 60 = .ok (.iload_n 1, 1) := by decide +kernel
theorem dX3_setForm_61 : decode cX3_setForm 61 = .ok (.aload_n 2, 1) := by decide +kernel
theorem dX3_setForm_62 : decode cX3_setForm 62 = .ok (.iload_n 3, 1) := by decide +kernel
theorem dX3_setForm_63 : decode cX3_setForm 63 = .ok (.iload 5, 2) := by decide +kernel
theorem dX3_setForm_65 : decode cX3_setForm 65 = .ok (.invokevirtual 109, 3) := by decide +kernel
theorem dX3_setForm_68 : decode cX3_setForm 68 = .ok (.iinc 3 1, 3) := by decide +kernel
theorem dX3_setForm_71 : decode cX3_setForm 71 = .ok (.goto (-69), 3) := by decide +kernel
theorem dX3_setForm_74 : decode cX3_setForm 74 = .ok (.return_, 1) := by decide +kernel
theorem dX3_addPlainEnd_0 : decode cX3_addPlainEnd 0 = .ok (.iload_n 1, 1) := by decide +kernel
theorem dX3_addPlainEnd_1 : decode cX3_addPlainEnd 1 = .ok (.iload 4, 2) := by decide +kernel
theorem dX3_addPlainEnd_3 : decode cX3_addPlainEnd 3 = .ok (.iadd, 1) := by decide +kernel
theorem dX3_addPlainEnd_4 : decode cX3_addPlainEnd 4 = .ok (.istore 5, 2) := by decide +kernel
theorem dX3_addPlainEnd_6 : decode cX3_addPlainEnd 6 = .ok (.iload 4, 2) := by decide +kernel
theorem dX3_addPlainEnd_8 : decode cX3_addPlainEnd 8 = .ok (.aload_n 2, 1) := by decide +kernel
theorem dX3_addPlainEnd_9 : decode cX3_addPlainEnd 9 = .ok (.getfield 112, 3) := by decide +kernel
theorem dX3_addPlainEnd_12 : decode cX3_addPlainEnd 12 = .ok (.arraylength, 1) := by decide +kernel
theorem dX3_addPlainEnd_13 : decode cX3_addPlainEnd 13 = .ok (.iload_n 3, 1) := by decide +kernel
theorem dX3_addPlainEnd_14 : decode cX3_addPlainEnd 14 = .ok (.isub, 1) := by decide +kernel
theorem dX3_addPlainEnd_15 : decode cX3_addPlainEnd 15 = .ok (.if_icmp .ge 4, 3) := by decide +kernel
theorem dX3_addPlainEnd_18 : decode cX3_addPlainEnd 18 = .ok (.return_, 1) := by decide +kernel
theorem dX3_addPlainEnd_19 : decode cX3_addPlainEnd 19 = .ok (.iload 5, 2) := by decide +kernel
theorem dX3_addPlainEnd_21 : decode cX3_addPlainEnd 21 = .ok (.aload_n 0, 1) := by decide +kernel
theorem dX3_addPlainEnd_22 : decode cX3_addPlainEnd 22 = .ok (.getfield 16, 3) := by decide +kernel
theorem dX3_addPlainEnd_25 : decode cX3_addPlainEnd 25 = .ok (.if_icmp .lt 15, 3) := by decide +kernel
theorem dX3_addPlainEnd_28 : decode cX3_addPlainEnd 28 = .ok (.aload_n 0, 1) := by decide +kernel
theorem dX3_addPlainEnd_29 : decode cX3_addPlainEnd 29 = .ok (.iload_n 1, 1) := by decide +kernel
theorem dX3_addPlainEnd_30 : decode cX3_addPlainEnd 30 = .ok (.aload_n 2, 1) := by decide +kernel
theorem dX3_addPlainEnd_31 : decode cX3_addPlainEnd 31 = .ok (.iload_n 3, 1) := by decide +kernel
theorem dX3_addPlainEnd_32 : decode cX3_addPlainEnd 32 = .ok (.lconst 1, 1) := by decide +kernel
theorem dX3_addPlainEnd_33 : decode cX3_addPlainEnd 33 = .ok (.iconst 0, 1) := by decide +kernel
theorem dX3_addPlainEnd_34 : decode cX3_addPlainEnd 34 = .ok (.invokevirtual 115, 3) := by decide +kernel
theorem dX3_addPlainEnd_37 : decode cX3_addPlainEnd 37 = .ok (.goto 34, 3) := by decide +kernel
theorem dX3_addPlainEnd_40 : decode cX3_addPlainEnd 40 = .ok (.aload_n 0, 1) := by decide +kernel
theorem dX3_addPlainEnd_41 : decode cX3_addPlainEnd 41 = .ok (.iload_n 1, 1) := by decide +kernel
theorem dX3_addPlainEnd_42 : decode cX3_addPlainEnd 42 = .ok (.aload_n 2, 1) := by decide +kernel
theorem dX3_addPlainEnd_43 : decode cX3_addPlainEnd 43 = .ok (.iload_n 3, 1) := by decide +kernel
theorem dX3_addPlainEnd_44 : decode cX3_addPlainEnd 44 = .ok (.aload_n 0, 1) := by decide +kernel
theorem dX3_addPlainEnd_45 : decode cX3_addPlainEnd 45 = .ok (.getfield 30, 3) := by decide +kernel
theorem dX3_addPlainEnd_48 : decode cX3_addPlainEnd 48 = .ok (.iload 5, 2) := by decide +kernel
theorem dX3_addPlainEnd_50 : decode cX3_addPlainEnd 50 = .ok (.aaload, 1) := by decide +kernel
theorem dX3_addPlainEnd_51 : decode cX3_addPlainEnd 51 = .ok (.aload_n 2, 1) := by decide +kernel
theorem dX3_addPlainEnd_52 : decode cX3_addPlainEnd 52 = .ok (.getfield 96, 3) := by decide +kernel
theorem dX3_addPlainEnd_55 : decode cX3_addPlainEnd 55 = .ok (.laload, 1) := by decide +kernel
theorem dX3_addPlainEnd_56 : decode cX3_addPlainEnd 56 = .ok (.aload_n 0, 1) := by decide +kernel
theorem dX3_addPlainEnd_57 : decode cX3_addPlainEnd 57 = .ok (.getfield 33, 3) := by decide +kernel
theorem dX3_addPlainEnd_60 : decode cX3_addPlainEnd 60 = .ok (.iload 5, 2) := by decide +kernel
theorem dX3_addPlainEnd_62 : decode cX3_addPlainEnd 62 = .ok (.aaload, 1) := by decide +kernel
theorem dX3_addPlainEnd_63 : decode cX3_addPlainEnd 63 = .ok (.aload_n 2, 1) := by decide +kernel
theorem dX3_addPlainEnd_64 : decode cX3_addPlainEnd 64 = .ok (.getfield 96, 3) := by decide +kernel
theorem dX3_addPlainEnd_67 : decode cX3_addPlainEnd 67 = .ok (.iaload, 1) := by decide +kernel
theorem dX3_addPlainEnd_68 : decode cX3_addPlainEnd 68 = .ok (.invokevirtual 115, 3) := by decide +kernel
theorem dX3_addPlainEnd_71 : decode cX3_addPlainEnd 71 = .ok (.return_, 1) := by decide +kernel
theorem dX3_addRuledEnds_0 : decode cX3_addRuledEnds 0 = .ok (.aload_n 2, 1) := by decide +kernel
theorem dX3_addRuledEnds_1 : decode cX3_addRuledEnds 1 = .ok (.getfield 119, 3) := by decide +kernel
theorem dX3_addRuledEnds_4 : decode cX3_addRuledEnds 4 = .ok (.aload_n 0, 1) := by decide +kernel
theorem dX3_addRuledEnds_5 : decode cX3_addRuledEnds 5 = .ok (.getfield 42, 3) := by decide +kernel
theorem dX3_addRuledEnds_8 : decode cX3_addRuledEnds 8 = .ok (.iand, 1) := by decide +kernel
theorem dX3_addRuledEnds_9 : decode cX3_addRuledEnds 9 = .ok (.istore 5, 2) := by decide +kernel
theorem dX3_addRuledEnds_11 : decode cX3_addRuledEnds 11 = .ok (.iconst 0, 1) := by decide +kernel
theorem dX3_addRuledEnds_12 : decode cX3_addRuledEnds 12 = .ok (.istore 6, 2) := by decide +kernel
theorem dX3_addRuledEnds_14 : decode cX3_addRuledEnds 14 = .ok (.iload 5, 2) := by decide +kernel
theorem dX3_addRuledEnds_16 : decode cX3_addRuledEnds 16 = .ok (.ifCond .eq 115, 3) := by decide +kernel
theorem dX3_addRuledEnds_19 : decode cX3_addRuledEnds 19 = .ok (.iload 6, 2) := by decide +kernel
theorem dX3_addRuledEnds_21 : decode cX3_addRuledEnds 21 = .ok (.aload_n 0, 1) := by decide +kernel
theorem dX3_addRuledEnds_22 : decode cX3_addRuledEnds 22 = .ok (.getfield 49, 3) := by decide +kernel
theorem dX3_addRuledEnds_25 : decode cX3_addRuledEnds 25 = .ok (.getfield 122, 3) := by decide +kernel
theorem dX3_addRuledEnds_28 : decode cX3_addRuledEnds 28 = .ok (.if_icmp .ge 103, 3) := by decide +kernel
theorem dX3_addRuledEnds_31 : decode cX3_addRuledEnds 31 = .ok (.iload 5, 2) := by decide +kernel
theorem dX3_addRuledEnds_33 : decode cX3_addRuledEnds 33 = .ok (.iload 6, 2) := by decide +kernel
theorem dX3_addRuledEnds_35 : decode cX3_addRuledEnds 35 = .ok (.invokestatic 125, 3) := by decide +kernel
theorem dX3_addRuledEnds_38 : decode cX3_addRuledEnds 38 = .ok (.ifCond .ne 6, 3) := by decide +kernel
theorem dX3_addRuledEnds_41 : decode cX3_addRuledEnds 41 = .ok (.goto 84, 3) := by decide +kernel
theorem dX3_addRuledEnds_44 : decode cX3_addRuledEnds 44 = .ok (.aload_n 0, 1) := by decide +kernel
theorem dX3_addRuledEnds_45 : decode cX3_addRuledEnds 45 = .ok (.getfield 49, 3) := by decide +kernel
theorem dX3_addRuledEnds_48 : decode cX3_addRuledEnds 48 = .ok (.getfield 129, 3) := by decide +kernel
theorem dX3_addRuledEnds_51 : decode cX3_addRuledEnds 51 = .ok (.iload 6, 2) := by decide +kernel
theorem dX3_addRuledEnds_53 : decode cX3_addRuledEnds 53 = .ok (.aaload, 1) := by decide +kernel
theorem dX3_addRuledEnds_54 : decode cX3_addRuledEnds 54 = .ok (.astore 7, 2) := by decide +kernel
theorem dX3_addRuledEnds_56 : decode cX3_addRuledEnds 56 = .ok (.aload_n 0, 1) := by decide +kernel
theorem dX3_addRuledEnds_57 : decode cX3_addRuledEnds 57 = .ok (.iload_n 1, 1) := by decide +kernel
theorem dX3_addRuledEnds_58 : decode cX3_addRuledEnds 58 = .ok (.aload_n 2, 1) := by decide +kernel
theorem dX3_addRuledEnds_59 : decode cX3_addRuledEnds 59 = .ok (.getfield 112, 3) := by decide +kernel
theorem dX3_addRuledEnds_62 : decode cX3_addRuledEnds 62 = .ok (.arraylength, 1) := by decide +kernel
theorem dX3_addRuledEnds_63 : decode cX3_addRuledEnds 63 = .ok (.iload_n 3, 1) := by decide +kernel
theorem dX3_addRuledEnds_64 : decode cX3_addRuledEnds 64 = .ok (.isub, 1) := by decide +kernel
theorem dX3_addRuledEnds_65 : decode cX3_addRuledEnds 65 = .ok (.iload 4, 2) := by decide +kernel
theorem dX3_addRuledEnds_67 : decode cX3_addRuledEnds 67 = .ok (.aload 7, 2) := by decide +kernel
theorem dX3_addRuledEnds_69 : decode cX3_addRuledEnds 69 = .ok (.invokevirtual 133, 3) := by decide +kernel
theorem dX3_addRuledEnds_72 : decode cX3_addRuledEnds 72 = .ok (.istore 8, 2) := by decide +kernel
theorem dX3_addRuledEnds_74 : decode cX3_addRuledEnds 74 = .ok (.iload 8, 2) := by decide +kernel
theorem dX3_addRuledEnds_76 : decode cX3_addRuledEnds 76 = .ok (.iconst (-1), 1) := by decide +kernel
theorem dX3_addRuledEnds_77 : decode cX3_addRuledEnds 77 = .ok (.if_icmp .eq 48, 3) := by decide +kernel
theorem dX3_addRuledEnds_80 : decode cX3_addRuledEnds 80 = .ok (.iload 6, 2) := by decide +kernel
theorem dX3_addRuledEnds_82 : decode cX3_addRuledEnds 82 = .ok (.bipush 6, 2) := by decide +kernel
theorem dX3_addRuledEnds_84 : decode cX3_addRuledEnds 84 = .ok (.imul, 1) := by decide +kernel
theorem dX3_addRuledEnds_85 : decode cX3_addRuledEnds 85 = .ok (.aload_n 2, 1) := by decide +kernel
theorem dX3_addRuledEnds_86 : decode cX3_addRuledEnds 86 = .ok (.getfield 137, 3) := by decide +kernel
theorem dX3_addRuledEnds_89 : decode cX3_addRuledEnds 89 = .ok (.iadd, 1) := by decide +kernel
theorem dX3_addRuledEnds_90 : decode cX3_addRuledEnds 90 = .ok (.istore 9, 2) := by decide +kernel
theorem dX3_addRuledEnds_92 : decode cX3_addRuledEnds 92 = .ok (.aload_n 0, 1) := by decide +kernel
theorem dX3_addRuledEnds_93 : decode cX3_addRuledEnds 93 = .ok (.iload_n 1, 1) := by decide +kernel
theorem dX3_addRuledEnds_94 : decode cX3_addRuledEnds 94 = .ok (.aload_n 2, 1) := by decide +kernel
theorem dX3_addRuledEnds_95 : decode cX3_addRuledEnds 95 = .ok (.iload_n 3, 1) := by decide +kernel
theorem dX3_addRuledEnds_96 : decode cX3_addRuledEnds 96 = .ok (.aload_n 0, 1) := by decide +kernel
theorem dX3_addRuledEnds_97 : decode cX3_addRuledEnds 97 = .ok (.getfield 36, 3) := by decide +kernel
theorem dX3_addRuledEnds_100 : decode cX3_addRuledEnds 100 = .ok (.iload 8, 2) := by decide +kernel
theorem dX3_addRuledEnds_102 : decode cX3_addRuledEnds 102 = .ok (.aaload, 1) := by decide +kernel
theorem dX3_addRuledEnds_103 : decode cX3_addRuledEnds 103 = .ok (.iload 9, 2) := by decide +kernel
theorem dX3_addRuledEnds_105 : decode cX3_addRuledEnds 105 = .ok (.laload, 1) := by decide +kernel
theorem dX3_addRuledEnds_106 : decode cX3_addRuledEnds 106 = .ok (.aload_n 0, 1) := by decide +kernel
theorem dX3_addRuledEnds_107 : decode cX3_addRuledEnds 107 = .ok (.getfield 39, 3) := by decide +kernel
theorem dX3_addRuledEnds_110 : decode cX3_addRuledEnds 110 = .ok (.iload 8, 2) := by decide +kernel
theorem dX3_addRuledEnds_112 : decode cX3_addRuledEnds 112 = .ok (.aaload, 1) := by decide +kernel
theorem dX3_addRuledEnds_113 : decode cX3_addRuledEnds 113 = .ok (.iload 9, 2) := by decide +kernel
theorem dX3_addRuledEnds_115 : decode cX3_addRuledEnds 115 = .ok (.iaload, 1) := by decide +kernel
theorem dX3_addRuledEnds_116 : decode cX3_addRuledEnds 116 = .ok (.aload 7, 2) := by decide +kernel
theorem dX3_addRuledEnds_118 : decode cX3_addRuledEnds 118 = .ok (.getfield 140, 3) := by decide +kernel
theorem dX3_addRuledEnds_121 : decode cX3_addRuledEnds 121 = .ok (.iadd, 1) := by decide +kernel
theorem dX3_addRuledEnds_122 : decode cX3_addRuledEnds 122 = .ok (.invokevirtual 115, 3) := by decide +kernel
theorem dX3_addRuledEnds_125 : decode cX3_addRuledEnds 125 = .ok (.iinc 6 1, 3) := by decide +kernel
theorem dX3_addRuledEnds_128 : decode cX3_addRuledEnds 128 = .ok (.goto (-114), 3) := by decide +kernel
theorem dX3_addRuledEnds_131 : decode cX3_addRuledEnds 131 = .ok (.return_, 1) := by decide +kernel
theorem dX3_addToState_0 : decode cX3_addToState 0 = .ok (.aload_n 2, 1) := by decide +kernel
theorem dX3_addToState_1 : decode cX3_addToState 1 = .ok (.getfield 96, 3) := by decide +kernel
theorem dX3_addToState_4 : decode cX3_addToState 4 = .ok (.iconst 4, 1) := by decide +kernel
theorem dX3_addToState_5 : decode cX3_addToState 5 = .ok (.imul, 1) := by decide +kernel
theorem dX3_addToState_6 : decode cX3_addToState 6 = .ok (.iload_n 3, 1) := by decide +kernel
theorem dX3_addToState_7 : decode cX3_addToState 7 = .ok (.iadd, 1) := by decide +kernel
theorem dX3_addToState_8 : decode cX3_addToState 8 = .ok (.istore 7, 2) := by decide +kernel
theorem dX3_addToState_10 : decode cX3_addToState 10 = .ok (.aload_n 0, 1) := by decide +kernel
theorem dX3_addToState_11 : decode cX3_addToState 11 = .ok (.getfield 24, 3) := by decide +kernel
theorem dX3_addToState_14 : decode cX3_addToState 14 = .ok (.iload 7, 2) := by decide +kernel
theorem dX3_addToState_16 : decode cX3_addToState 16 = .ok (.aload_n 0, 1) := by decide +kernel
theorem dX3_addToState_17 : decode cX3_addToState 17 = .ok (.getfield 24, 3) := by decide +kernel
theorem dX3_addToState_20 : decode cX3_addToState 20 = .ok (.iload 7, 2) := by decide +kernel
theorem dX3_addToState_22 : decode cX3_addToState 22 = .ok (.laload, 1) := by decide +kernel
theorem dX3_addToState_23 : decode cX3_addToState 23 = .ok (.lload 4, 2) := by decide +kernel
theorem dX3_addToState_25 : decode cX3_addToState 25 = .ok (.ladd, 1) := by decide +kernel
theorem dX3_addToState_26 : decode cX3_addToState 26 = .ok (.invokestatic 92, 3) := by decide +kernel
theorem dX3_addToState_29 : decode cX3_addToState 29 = .ok (.lastore, 1) := by decide +kernel
theorem dX3_addToState_30 : decode cX3_addToState 30 = .ok (.aload_n 0, 1) := by decide +kernel
theorem dX3_addToState_31 : decode cX3_addToState 31 = .ok (.getfield 11, 3) := by decide +kernel
theorem dX3_addToState_34 : decode cX3_addToState 34 = .ok (.iload_n 1, 1) := by decide +kernel
theorem dX3_addToState_35 : decode cX3_addToState 35 = .ok (.aaload, 1) := by decide +kernel
theorem dX3_addToState_36 : decode cX3_addToState 36 = .ok (.iload 7, 2) := by decide +kernel
theorem dX3_addToState_38 : decode cX3_addToState 38 = .ok (.aload_n 0, 1) := by decide +kernel
theorem dX3_addToState_39 : decode cX3_addToState 39 = .ok (.getfield 11, 3) := by decide +kernel
theorem dX3_addToState_42 : decode cX3_addToState 42 = .ok (.iload_n 1, 1) := by decide +kernel
theorem dX3_addToState_43 : decode cX3_addToState 43 = .ok (.aaload, 1) := by decide +kernel
theorem dX3_addToState_44 : decode cX3_addToState 44 = .ok (.iload 7, 2) := by decide +kernel
theorem dX3_addToState_46 : decode cX3_addToState 46 = .ok (.iaload, 1) := by decide +kernel
theorem dX3_addToState_47 : decode cX3_addToState 47 = .ok (.iload 6, 2) := by decide +kernel
theorem dX3_addToState_49 : decode cX3_addToState 49 = .ok (.aload_n 2, 1) := by decide +kernel
theorem dX3_addToState_50 : decode cX3_addToState 50 = .ok (.getfield 145, 3) := by decide +kernel
theorem dX3_addToState_53 : decode cX3_addToState 53 = .ok (.iadd, 1) := by decide +kernel
theorem dX3_addToState_54 : decode cX3_addToState 54 = .ok (.invokestatic 53, 3) := by decide +kernel
theorem dX3_addToState_57 : decode cX3_addToState 57 = .ok (.iastore, 1) := by decide +kernel
theorem dX3_addToState_58 : decode cX3_addToState 58 = .ok (.return_, 1) := by decide +kernel
theorem dX3_gatherForm_0 : decode cX3_gatherForm 0 = .ok (.iconst 0, 1) := by decide +kernel
theorem dX3_gatherForm_1 : decode cX3_gatherForm 1 = .ok (.istore_n 3, 1) := by decide +kernel
theorem dX3_gatherForm_2 : decode cX3_gatherForm 2 = .ok (.iload_n 3, 1) := by decide +kernel
theorem dX3_gatherForm_3 : decode cX3_gatherForm 3 = .ok (.iconst 4, 1) := by decide +kernel
theorem dX3_gatherForm_4 : decode cX3_gatherForm 4 = .ok (.if_icmp .ge 47, 3) := by decide +kernel
theorem dX3_gatherForm_7 : decode cX3_gatherForm 7 = .ok (.aload_n 0, 1) := by decide +kernel
theorem dX3_gatherForm_8 : decode cX3_gatherForm 8 = .ok (.getfield 24, 3) := by decide +kernel
theorem dX3_gatherForm_11 : decode cX3_gatherForm 11 = .ok (.aload_n 2, 1) := by decide +kernel
theorem dX3_gatherForm_12 : decode cX3_gatherForm 12 = .ok (.getfield 96, 3) := by decide +kernel
theorem dX3_gatherForm_15 : decode cX3_gatherForm 15 = .ok (.iconst 4, 1) := by decide +kernel
theorem dX3_gatherForm_16 : decode cX3_gatherForm 16 = .ok (.imul, 1) := by decide +kernel
theorem dX3_gatherForm_17 : decode cX3_gatherForm 17 = .ok (.iload_n 3, 1) := by decide +kernel
theorem dX3_gatherForm_18 : decode cX3_gatherForm 18 = .ok (.iadd, 1) := by decide +kernel
theorem dX3_gatherForm_19 : decode cX3_gatherForm 19 = .ok (.laload, 1) := by decide +kernel
theorem dX3_gatherForm_20 : decode cX3_gatherForm 20 = .ok (.lconst 0, 1) := by decide +kernel
theorem dX3_gatherForm_21 : decode cX3_gatherForm 21 = .ok (.lcmp, 1) := by decide +kernel
theorem dX3_gatherForm_22 : decode cX3_gatherForm 22 = .ok (.ifCond .ne 6, 3) := by decide +kernel
theorem dX3_gatherForm_25 : decode cX3_gatherForm 25 = .ok (.goto 20, 3) := by decide +kernel
theorem dX3_gatherForm_28 : decode cX3_gatherForm 28 = .ok (.iload_n 3, 1) := by decide +kernel
theorem dX3_gatherForm_29 : decode cX3_gatherForm 29 = .ok (.ifCond .ne 9, 3) := by decide +kernel
theorem dX3_gatherForm_32 : decode cX3_gatherForm 32 = .ok (.aload_n 0, 1) := by decide +kernel
theorem dX3_gatherForm_33 : decode cX3_gatherForm 33 = .ok (.iload_n 1, 1) := by decide +kernel
theorem dX3_gatherForm_34 : decode cX3_gatherForm 34 = .ok (.aload_n 2, 1) := by decide +kernel
theorem dX3_gatherForm_35 : decode cX3_gatherForm 35 = .ok (.invokevirtual 146, 3) := by decide +kernel
theorem dX3_gatherForm_38 : decode cX3_gatherForm 38 = .ok (.aload_n 0, 1) := by decide +kernel
theorem dX3_gatherForm_39 : decode cX3_gatherForm 39 = .ok (.iload_n 1, 1) := by decide +kernel
theorem dX3_gatherForm_40 : decode cX3_gatherForm 40 = .ok (.aload_n 2, 1) := by decide +kernel
theorem dX3_gatherForm_41 : decode cX3_gatherForm 41 = .ok (.iload_n 3, 1) := by decide +kernel
theorem dX3_gatherForm_42 : decode cX3_gatherForm 42 = .ok (.invokevirtual 149, 3) := by decide +kernel
theorem dX3_gatherForm_45 : decode cX3_gatherForm 45 = .ok (.iinc 3 1, 3) := by decide +kernel
theorem dX3_gatherForm_48 : decode cX3_gatherForm 48 = .ok (.goto (-46), 3) := by decide +kernel
theorem dX3_gatherForm_51 : decode cX3_gatherForm 51 = .ok (.return_, 1) := by decide +kernel
theorem dX3_gatherPlain_0 : decode cX3_gatherPlain 0 = .ok (.aload_n 2, 1) := by decide +kernel
theorem dX3_gatherPlain_1 : decode cX3_gatherPlain 1 = .ok (.getfield 96, 3) := by decide +kernel
theorem dX3_gatherPlain_4 : decode cX3_gatherPlain 4 = .ok (.iconst 4, 1) := by decide +kernel
theorem dX3_gatherPlain_5 : decode cX3_gatherPlain 5 = .ok (.imul, 1) := by decide +kernel
theorem dX3_gatherPlain_6 : decode cX3_gatherPlain 6 = .ok (.istore_n 3, 1) := by decide +kernel
theorem dX3_gatherPlain_7 : decode cX3_gatherPlain 7 = .ok (.iconst 0, 1) := by decide +kernel
theorem dX3_gatherPlain_8 : decode cX3_gatherPlain 8 = .ok (.istore 4, 2) := by decide +kernel
theorem dX3_gatherPlain_10 : decode cX3_gatherPlain 10 = .ok (.iload 4, 2) := by decide +kernel
theorem dX3_gatherPlain_12 : decode cX3_gatherPlain 12 = .ok (.aload_n 0, 1) := by decide +kernel
theorem dX3_gatherPlain_13 : decode cX3_gatherPlain 13 = .ok (.getfield 49, 3) := by decide +kernel
theorem dX3_gatherPlain_16 : decode cX3_gatherPlain 16 = .ok (.getfield 78, 3) := by decide +kernel
theorem dX3_gatherPlain_19 : decode cX3_gatherPlain 19 = .ok (.if_icmp .ge 84, 3) := by decide +kernel
theorem dX3_gatherPlain_22 : decode cX3_gatherPlain 22 = .ok (.aload_n 0, 1) := by decide +kernel
theorem dX3_gatherPlain_23 : decode cX3_gatherPlain 23 = .ok (.aload_n 0, 1) := by decide +kernel
theorem dX3_gatherPlain_24 : decode cX3_gatherPlain 24 = .ok (.getfield 49, 3) := by decide +kernel
theorem dX3_gatherPlain_27 : decode cX3_gatherPlain 27 = .ok (.getfield 81, 3) := by decide +kernel
theorem dX3_gatherPlain_30 : decode cX3_gatherPlain 30 = .ok (.iload 4, 2) := by decide +kernel
theorem dX3_gatherPlain_32 : decode cX3_gatherPlain 32 = .ok (.aaload, 1) := by decide +kernel
theorem dX3_gatherPlain_33 : decode cX3_gatherPlain 33 = .ok (.aload_n 2, 1) := by decide +kernel
theorem dX3_gatherPlain_34 : decode cX3_gatherPlain 34 = .ok (.invokevirtual 153, 3) := by decide +kernel
theorem dX3_gatherPlain_37 : decode cX3_gatherPlain 37 = .ok (.ifCond .eq 60, 3) := by decide +kernel
theorem dX3_gatherPlain_40 : decode cX3_gatherPlain 40 = .ok (.aload_n 0, 1) := by decide +kernel
theorem dX3_gatherPlain_41 : decode cX3_gatherPlain 41 = .ok (.getfield 30, 3) := by decide +kernel
theorem dX3_gatherPlain_44 : decode cX3_gatherPlain 44 = .ok (.iload_n 1, 1) := by decide +kernel
theorem dX3_gatherPlain_45 : decode cX3_gatherPlain 45 = .ok (.aaload, 1) := by decide +kernel
theorem dX3_gatherPlain_46 : decode cX3_gatherPlain 46 = .ok (.iload 4, 2) := by decide +kernel
theorem dX3_gatherPlain_48 : decode cX3_gatherPlain 48 = .ok (.aload_n 0, 1) := by decide +kernel
theorem dX3_gatherPlain_49 : decode cX3_gatherPlain 49 = .ok (.getfield 30, 3) := by decide +kernel
theorem dX3_gatherPlain_52 : decode cX3_gatherPlain 52 = .ok (.iload_n 1, 1) := by decide +kernel
theorem dX3_gatherPlain_53 : decode cX3_gatherPlain 53 = .ok (.aaload, 1) := by decide +kernel
theorem dX3_gatherPlain_54 : decode cX3_gatherPlain 54 = .ok (.iload 4, 2) := by decide +kernel
theorem dX3_gatherPlain_56 : decode cX3_gatherPlain 56 = .ok (.laload, 1) := by decide +kernel
theorem dX3_gatherPlain_57 : decode cX3_gatherPlain 57 = .ok (.aload_n 0, 1) := by decide +kernel
theorem dX3_gatherPlain_58 : decode cX3_gatherPlain 58 = .ok (.getfield 24, 3) := by decide +kernel
theorem dX3_gatherPlain_61 : decode cX3_gatherPlain 61 = .ok (.iload_n 3, 1) := by decide +kernel
theorem dX3_gatherPlain_62 : decode cX3_gatherPlain 62 = .ok (.laload, 1) := by decide +kernel
theorem dX3_gatherPlain_63 : decode cX3_gatherPlain 63 = .ok (.ladd, 1) := by decide +kernel
theorem dX3_gatherPlain_64 : decode cX3_gatherPlain 64 = .ok (.invokestatic 92, 3) := by decide +kernel
theorem dX3_gatherPlain_67 : decode cX3_gatherPlain 67 = .ok (.lastore, 1) := by decide +kernel
theorem dX3_gatherPlain_68 : decode cX3_gatherPlain 68 = .ok (.aload_n 0, 1) := by decide +kernel
theorem dX3_gatherPlain_69 : decode cX3_gatherPlain 69 = .ok (.getfield 33, 3) := by decide +kernel
theorem dX3_gatherPlain_72 : decode cX3_gatherPlain 72 = .ok (.iload_n 1, 1) := by decide +kernel
theorem dX3_gatherPlain_73 : decode cX3_gatherPlain 73 = .ok (.aaload, 1) := by decide +kernel
theorem dX3_gatherPlain_74 : decode cX3_gatherPlain 74 = .ok (.iload 4, 2) := by decide +kernel
theorem dX3_gatherPlain_76 : decode cX3_gatherPlain 76 = .ok (.aload_n 0, 1) := by decide +kernel
theorem dX3_gatherPlain_77 : decode cX3_gatherPlain 77 = .ok (.getfield 33, 3) := by decide +kernel
theorem dX3_gatherPlain_80 : decode cX3_gatherPlain 80 = .ok (.iload_n 1, 1) := by decide +kernel
theorem dX3_gatherPlain_81 : decode cX3_gatherPlain 81 = .ok (.aaload, 1) := by decide +kernel
theorem dX3_gatherPlain_82 : decode cX3_gatherPlain 82 = .ok (.iload 4, 2) := by decide +kernel
theorem dX3_gatherPlain_84 : decode cX3_gatherPlain 84 = .ok (.iaload, 1) := by decide +kernel
theorem dX3_gatherPlain_85 : decode cX3_gatherPlain 85 = .ok (.aload_n 0, 1) := by decide +kernel
theorem dX3_gatherPlain_86 : decode cX3_gatherPlain 86 = .ok (.getfield 11, 3) := by decide +kernel
theorem dX3_gatherPlain_89 : decode cX3_gatherPlain 89 = .ok (.iload_n 1, 1) := by decide +kernel
theorem dX3_gatherPlain_90 : decode cX3_gatherPlain 90 = .ok (.aaload, 1) := by decide +kernel
theorem dX3_gatherPlain_91 : decode cX3_gatherPlain 91 = .ok (.iload_n 3, 1) := by decide +kernel
theorem dX3_gatherPlain_92 : decode cX3_gatherPlain 92 = .ok (.iaload, 1) := by decide +kernel
theorem dX3_gatherPlain_93 : decode cX3_gatherPlain 93 = .ok (.invokestatic 53, 3) := by decide +kernel
theorem dX3_gatherPlain_96 : decode cX3_gatherPlain 96 = .ok (.iastore, 1) := by decide +kernel
theorem dX3_gatherPlain_97 : decode cX3_gatherPlain 97 = .ok (.iinc 4 1, 3) := by decide +kernel
theorem dX3_gatherPlain_100 : decode cX3_gatherPlain 100 = .ok (.goto (-90), 3) := by decide +kernel
theorem dX3_gatherPlain_103 : decode cX3_gatherPlain 103 = .ok (.return_, 1) := by decide +kernel
theorem dX3_gatherRuled_0 : decode cX3_gatherRuled 0 = .ok (.aload_n 2, 1) := by decide +kernel
theorem dX3_gatherRuled_1 : decode cX3_gatherRuled 1 = .ok (.getfield 157, 3) := by decide +kernel
theorem dX3_gatherRuled_4 : decode cX3_gatherRuled 4 = .ok (.aload_n 0, 1) := by decide +kernel
theorem dX3_gatherRuled_5 : decode cX3_gatherRuled 5 = .ok (.getfield 42, 3) := by decide +kernel
theorem dX3_gatherRuled_8 : decode cX3_gatherRuled 8 = .ok (.iand, 1) := by decide +kernel
theorem dX3_gatherRuled_9 : decode cX3_gatherRuled 9 = .ok (.istore 4, 2) := by decide +kernel
theorem dX3_gatherRuled_11 : decode cX3_gatherRuled 11 = .ok (.iconst 0, 1) := by decide +kernel
theorem dX3_gatherRuled_12 : decode cX3_gatherRuled 12 = .ok (.istore 5, 2) := by decide +kernel
theorem dX3_gatherRuled_14 : decode cX3_gatherRuled 14 = .ok (.iload 4, 2) := by decide +kernel
theorem dX3_gatherRuled_16 : decode cX3_gatherRuled 16 = .ok (.ifCond .eq 56, 3) := by decide +kernel
theorem dX3_gatherRuled_19 : decode cX3_gatherRuled 19 = .ok (.iload 5, 2) := by decide +kernel
theorem dX3_gatherRuled_21 : decode cX3_gatherRuled 21 = .ok (.aload_n 0, 1) := by decide +kernel
theorem dX3_gatherRuled_22 : decode cX3_gatherRuled 22 = .ok (.getfield 49, 3) := by decide +kernel
theorem dX3_gatherRuled_25 : decode cX3_gatherRuled 25 = .ok (.getfield 122, 3) := by decide +kernel
theorem dX3_gatherRuled_28 : decode cX3_gatherRuled 28 = .ok (.if_icmp .ge 44, 3) := by decide +kernel
theorem dX3_gatherRuled_31 : decode cX3_gatherRuled 31 = .ok (.iload 4, 2) := by decide +kernel
theorem dX3_gatherRuled_33 : decode cX3_gatherRuled 33 = .ok (.iload 5, 2) := by decide +kernel
theorem dX3_gatherRuled_35 : decode cX3_gatherRuled 35 = .ok (.invokestatic 125, 3) := by decide +kernel
theorem dX3_gatherRuled_38 : decode cX3_gatherRuled 38 = .ok (.ifCond .eq 28, 3) := by decide +kernel
theorem dX3_gatherRuled_41 : decode cX3_gatherRuled 41 = .ok (.aload_n 0, 1) := by decide +kernel
theorem dX3_gatherRuled_42 : decode cX3_gatherRuled 42 = .ok (.getfield 49, 3) := by decide +kernel
theorem dX3_gatherRuled_45 : decode cX3_gatherRuled 45 = .ok (.getfield 129, 3) := by decide +kernel
theorem dX3_gatherRuled_48 : decode cX3_gatherRuled 48 = .ok (.iload 5, 2) := by decide +kernel
theorem dX3_gatherRuled_50 : decode cX3_gatherRuled 50 = .ok (.aaload, 1) := by decide +kernel
theorem dX3_gatherRuled_51 : decode cX3_gatherRuled 51 = .ok (.getfield 160, 3) := by decide +kernel
theorem dX3_gatherRuled_54 : decode cX3_gatherRuled 54 = .ok (.iload_n 3, 1) := by decide +kernel
theorem dX3_gatherRuled_55 : decode cX3_gatherRuled 55 = .ok (.if_icmp .ne 11, 3) := by decide +kernel
theorem dX3_gatherRuled_58 : decode cX3_gatherRuled 58 = .ok (.aload_n 0, 1) := by decide +kernel
theorem dX3_gatherRuled_59 : decode cX3_gatherRuled 59 = .ok (.iload_n 1, 1) := by decide +kernel
theorem dX3_gatherRuled_60 : decode cX3_gatherRuled 60 = .ok (.aload_n 2, 1) := by decide +kernel
theorem dX3_gatherRuled_61 : decode cX3_gatherRuled 61 = .ok (.iload 5, 2) := by decide +kernel
theorem dX3_gatherRuled_63 : decode cX3_gatherRuled 63 = .ok (.invokevirtual 163, 3) := by decide +kernel
theorem dX3_gatherRuled_66 : decode cX3_gatherRuled 66 = .ok (.iinc 5 1, 3) := by decide +kernel
theorem dX3_gatherRuled_69 : decode cX3_gatherRuled 69 = .ok (.goto (-55), 3) := by decide +kernel
theorem dX3_gatherRuled_72 : decode cX3_gatherRuled 72 = .ok (.return_, 1) := by decide +kernel
theorem dX3_gatherBehindRule_0 : decode cX3_gatherBehindRule 0 = .ok (.aload_n 2, 1) := by decide +kernel
theorem dX3_gatherBehindRule_1 : decode cX3_gatherBehindRule 1 = .ok (.getfield 96, 3) := by decide +kernel
theorem dX3_gatherBehindRule_4 : decode cX3_gatherBehindRule 4 = .ok (.iconst 4, 1) := by decide +kernel
theorem dX3_gatherBehindRule_5 : decode cX3_gatherBehindRule 5 = .ok (.imul, 1) := by decide +kernel
theorem dX3_gatherBehindRule_6 : decode cX3_gatherBehindRule 6 = .ok (.aload_n 0, 1) := by decide +kernel
theorem dX3_gatherBehindRule_7 : decode cX3_gatherBehindRule 7 = .ok (.getfield 49, 3) := by decide +kernel
theorem dX3_gatherBehindRule_10 : decode cX3_gatherBehindRule 10 = .ok (.getfield 129, 3) := by decide +kernel
theorem dX3_gatherBehindRule_13 : decode cX3_gatherBehindRule 13 = .ok (.iload_n 3, 1) := by decide +kernel
theorem dX3_gatherBehindRule_14 : decode cX3_gatherBehindRule 14 = .ok (.aaload, 1) := by decide +kernel
theorem dX3_gatherBehindRule_15 : decode cX3_gatherBehindRule 15 = .ok (.getfield 160, 3) := by decide +kernel
theorem dX3_gatherBehindRule_18 : decode cX3_gatherBehindRule 18 = .ok (.iadd, 1) := by decide +kernel
theorem dX3_gatherBehindRule_19 : decode cX3_gatherBehindRule 19 = .ok (.istore 4, 2) := by decide +kernel
theorem dX3_gatherBehindRule_21 : decode cX3_gatherBehindRule 21 = .ok (.iconst 0, 1) := by decide +kernel
theorem dX3_gatherBehindRule_22 : decode cX3_gatherBehindRule 22 = .ok (.istore 5, 2) := by decide +kernel
theorem dX3_gatherBehindRule_24 : decode cX3_gatherBehindRule 24 = .ok (.iload 5, 2) := by decide +kernel
theorem dX3_gatherBehindRule_26 : decode cX3_gatherBehindRule 26 = .ok (.bipush 6, 2) := by decide +kernel
theorem dX3_gatherBehindRule_28 : decode cX3_gatherBehindRule 28 = .ok (.if_icmp .ge 95, 3) := by decide +kernel
theorem dX3_gatherBehindRule_31 : decode cX3_gatherBehindRule 31 = .ok (.iload_n 3, 1) := by decide +kernel
theorem dX3_gatherBehindRule_32 : decode cX3_gatherBehindRule 32 = .ok (.bipush 6, 2) := by decide +kernel
theorem dX3_gatherBehindRule_34 : decode cX3_gatherBehindRule 34 = .ok (.imul, 1) := by decide +kernel
theorem dX3_gatherBehindRule_35 : decode cX3_gatherBehindRule 35 = .ok (.iload 5, 2) := by decide +kernel
theorem dX3_gatherBehindRule_37 : decode cX3_gatherBehindRule 37 = .ok (.iadd, 1) := by decide +kernel
theorem dX3_gatherBehindRule_38 : decode cX3_gatherBehindRule 38 = .ok (.istore 6, 2) := by decide +kernel
theorem dX3_gatherBehindRule_40 : decode cX3_gatherBehindRule 40 = .ok (.aload_n 0, 1) := by decide +kernel
theorem dX3_gatherBehindRule_41 : decode cX3_gatherBehindRule 41 = .ok (.getfield 45, 3) := by decide +kernel
theorem dX3_gatherBehindRule_44 : decode cX3_gatherBehindRule 44 = .ok (.iload 5, 2) := by decide +kernel
theorem dX3_gatherBehindRule_46 : decode cX3_gatherBehindRule 46 = .ok (.bipush 6, 2) := by decide +kernel
theorem dX3_gatherBehindRule_48 : decode cX3_gatherBehindRule 48 = .ok (.imul, 1) := by decide +kernel
theorem dX3_gatherBehindRule_49 : decode cX3_gatherBehindRule 49 = .ok (.aload_n 2, 1) := by decide +kernel
theorem dX3_gatherBehindRule_50 : decode cX3_gatherBehindRule 50 = .ok (.getfield 137, 3) := by decide +kernel
theorem dX3_gatherBehindRule_53 : decode cX3_gatherBehindRule 53 = .ok (.iadd, 1) := by decide +kernel
theorem dX3_gatherBehindRule_54 : decode cX3_gatherBehindRule 54 = .ok (.baload, 1) := by decide +kernel
theorem dX3_gatherBehindRule_55 : decode cX3_gatherBehindRule 55 = .ok (.ifCond .ne 62, 3) := by decide +kernel
theorem dX3_gatherBehindRule_58 : decode cX3_gatherBehindRule 58 = .ok (.aload_n 0, 1) := by decide +kernel
theorem dX3_gatherBehindRule_59 : decode cX3_gatherBehindRule 59 = .ok (.getfield 36, 3) := by decide +kernel
theorem dX3_gatherBehindRule_62 : decode cX3_gatherBehindRule 62 = .ok (.iload_n 1, 1) := by decide +kernel
theorem dX3_gatherBehindRule_63 : decode cX3_gatherBehindRule 63 = .ok (.aaload, 1) := by decide +kernel
theorem dX3_gatherBehindRule_64 : decode cX3_gatherBehindRule 64 = .ok (.iload 6, 2) := by decide +kernel
theorem dX3_gatherBehindRule_66 : decode cX3_gatherBehindRule 66 = .ok (.aload_n 0, 1) := by decide +kernel
theorem dX3_gatherBehindRule_67 : decode cX3_gatherBehindRule 67 = .ok (.getfield 36, 3) := by decide +kernel
theorem dX3_gatherBehindRule_70 : decode cX3_gatherBehindRule 70 = .ok (.iload_n 1, 1) := by decide +kernel
theorem dX3_gatherBehindRule_71 : decode cX3_gatherBehindRule 71 = .ok (.aaload, 1) := by decide +kernel
theorem dX3_gatherBehindRule_72 : decode cX3_gatherBehindRule 72 = .ok (.iload 6, 2) := by decide +kernel
theorem dX3_gatherBehindRule_74 : decode cX3_gatherBehindRule 74 = .ok (.laload, 1) := by decide +kernel
theorem dX3_gatherBehindRule_75 : decode cX3_gatherBehindRule 75 = .ok (.aload_n 0, 1) := by decide +kernel
theorem dX3_gatherBehindRule_76 : decode cX3_gatherBehindRule 76 = .ok (.getfield 24, 3) := by decide +kernel
theorem dX3_gatherBehindRule_79 : decode cX3_gatherBehindRule 79 = .ok (.iload 4, 2) := by decide +kernel
theorem dX3_gatherBehindRule_81 : decode cX3_gatherBehindRule 81 = .ok (.laload, 1) := by decide +kernel
theorem dX3_gatherBehindRule_82 : decode cX3_gatherBehindRule 82 = .ok (.ladd, 1) := by decide +kernel
theorem dX3_gatherBehindRule_83 : decode cX3_gatherBehindRule 83 = .ok (.invokestatic 92, 3) := by decide +kernel
theorem dX3_gatherBehindRule_86 : decode cX3_gatherBehindRule 86 = .ok (.lastore, 1) := by decide +kernel
theorem dX3_gatherBehindRule_87 : decode cX3_gatherBehindRule 87 = .ok (.aload_n 0, 1) := by decide +kernel
theorem dX3_gatherBehindRule_88 : decode cX3_gatherBehindRule 88 = .ok (.getfield 39, 3) := by decide +kernel
theorem dX3_gatherBehindRule_91 : decode cX3_gatherBehindRule 91 = .ok (.iload_n 1, 1) := by decide +kernel
theorem dX3_gatherBehindRule_92 : decode cX3_gatherBehindRule 92 = .ok (.aaload, 1) := by decide +kernel
theorem dX3_gatherBehindRule_93 : decode cX3_gatherBehindRule 93 = .ok (.iload 6, 2) := by decide +kernel
theorem dX3_gatherBehindRule_95 : decode cX3_gatherBehindRule 95 = .ok (.aload_n 0, 1) := by decide +kernel
theorem dX3_gatherBehindRule_96 : decode cX3_gatherBehindRule 96 = .ok (.getfield 39, 3) := by decide +kernel
theorem dX3_gatherBehindRule_99 : decode cX3_gatherBehindRule 99 = .ok (.iload_n 1, 1) := by decide +kernel
theorem dX3_gatherBehindRule_100 : decode cX3_gatherBehindRule 100 = .ok (.aaload, 1) := by decide +kernel
theorem dX3_gatherBehindRule_101 : decode cX3_gatherBehindRule 101 = .ok (.iload 6, 2) := by decide +kernel
theorem dX3_gatherBehindRule_103 : decode cX3_gatherBehindRule 103 = .ok (.iaload, 1) := by decide +kernel
theorem dX3_gatherBehindRule_104 : decode cX3_gatherBehindRule 104 = .ok (.aload_n 0, 1) := by decide +kernel
theorem dX3_gatherBehindRule_105 : decode cX3_gatherBehindRule 105 = .ok (.getfield 11, 3) := by decide +kernel
theorem dX3_gatherBehindRule_108 : decode cX3_gatherBehindRule 108 = .ok (.iload_n 1, 1) := by decide +kernel
theorem dX3_gatherBehindRule_109 : decode cX3_gatherBehindRule 109 = .ok (.aaload, 1) := by decide +kernel
theorem dX3_gatherBehindRule_110 : decode cX3_gatherBehindRule 110 = .ok (.iload 4, 2) := by decide +kernel
theorem dX3_gatherBehindRule_112 : decode cX3_gatherBehindRule 112 = .ok (.iaload, 1) := by decide +kernel
theorem dX3_gatherBehindRule_113 : decode cX3_gatherBehindRule 113 = .ok (.invokestatic 53, 3) := by decide +kernel
theorem dX3_gatherBehindRule_116 : decode cX3_gatherBehindRule 116 = .ok (.iastore, 1) := by decide +kernel
theorem dX3_gatherBehindRule_117 : decode cX3_gatherBehindRule 117 = .ok (.iinc 5 1, 3) := by decide +kernel
theorem dX3_gatherBehindRule_120 : decode cX3_gatherBehindRule 120 = .ok (.goto (-96), 3) := by decide +kernel
theorem dX3_gatherBehindRule_123 : decode cX3_gatherBehindRule 123 = .ok (.return_, 1) := by decide +kernel
theorem dX3_canMeetPlain_0 : decode cX3_canMeetPlain 0 = .ok (.aload_n 1, 1) := by decide +kernel
theorem dX3_canMeetPlain_1 : decode cX3_canMeetPlain 1 = .ok (.getfield 119, 3) := by decide +kernel
theorem dX3_canMeetPlain_4 : decode cX3_canMeetPlain 4 = .ok (.aload_n 2, 1) := by decide +kernel
theorem dX3_canMeetPlain_5 : decode cX3_canMeetPlain 5 = .ok (.getfield 157, 3) := by decide +kernel
theorem dX3_canMeetPlain_8 : decode cX3_canMeetPlain 8 = .ok (.iand, 1) := by decide +kernel
theorem dX3_canMeetPlain_9 : decode cX3_canMeetPlain 9 = .ok (.aload_n 0, 1) := by decide +kernel
theorem dX3_canMeetPlain_10 : decode cX3_canMeetPlain 10 = .ok (.getfield 42, 3) := by decide +kernel
theorem dX3_canMeetPlain_13 : decode cX3_canMeetPlain 13 = .ok (.iand, 1) := by decide +kernel
theorem dX3_canMeetPlain_14 : decode cX3_canMeetPlain 14 = .ok (.ifCond .ne 27, 3) := by decide +kernel
theorem dX3_canMeetPlain_17 : decode cX3_canMeetPlain 17 = .ok (.aload_n 0, 1) := by decide +kernel
theorem dX3_canMeetPlain_18 : decode cX3_canMeetPlain 18 = .ok (.getfield 45, 3) := by decide +kernel
theorem dX3_canMeetPlain_21 : decode cX3_canMeetPlain 21 = .ok (.aload_n 1, 1) := by decide +kernel
theorem dX3_canMeetPlain_22 : decode cX3_canMeetPlain 22 = .ok (.getfield 137, 3) := by decide +kernel
theorem dX3_canMeetPlain_25 : decode cX3_canMeetPlain 25 = .ok (.bipush 6, 2) := by decide +kernel
theorem dX3_canMeetPlain_27 : decode cX3_canMeetPlain 27 = .ok (.imul, 1) := by decide +kernel
theorem dX3_canMeetPlain_28 : decode cX3_canMeetPlain 28 = .ok (.aload_n 2, 1) := by decide +kernel
theorem dX3_canMeetPlain_29 : decode cX3_canMeetPlain 29 = .ok (.getfield 137, 3) := by decide +kernel
theorem dX3_canMeetPlain_32 : decode cX3_canMeetPlain 32 = .ok (.iadd, 1) := by decide +kernel
theorem dX3_canMeetPlain_33 : decode cX3_canMeetPlain 33 = .ok (.baload, 1) := by decide +kernel
theorem dX3_canMeetPlain_34 : decode cX3_canMeetPlain 34 = .ok (.ifCond .ne 7, 3) := by decide +kernel
theorem dX3_canMeetPlain_37 : decode cX3_canMeetPlain 37 = .ok (.iconst 1, 1) := by decide +kernel
theorem dX3_canMeetPlain_38 : decode cX3_canMeetPlain 38 = .ok (.goto 4, 3) := by decide +kernel
theorem dX3_canMeetPlain_41 : decode cX3_canMeetPlain 41 = .ok (.iconst 0, 1) := by decide +kernel
theorem dX3_canMeetPlain_42 : decode cX3_canMeetPlain 42 = .ok (.ireturn, 1) := by decide +kernel
theorem dX3_canMeetBy_0 : decode cX3_canMeetBy 0 = .ok (.aload_n 2, 1) := by decide +kernel
theorem dX3_canMeetBy_1 : decode cX3_canMeetBy 1 = .ok (.getfield 119, 3) := by decide +kernel
theorem dX3_canMeetBy_4 : decode cX3_canMeetBy 4 = .ok (.aload_n 3, 1) := by decide +kernel
theorem dX3_canMeetBy_5 : decode cX3_canMeetBy 5 = .ok (.getfield 157, 3) := by decide +kernel
theorem dX3_canMeetBy_8 : decode cX3_canMeetBy 8 = .ok (.iand, 1) := by decide +kernel
theorem dX3_canMeetBy_9 : decode cX3_canMeetBy 9 = .ok (.aload_n 0, 1) := by decide +kernel
theorem dX3_canMeetBy_10 : decode cX3_canMeetBy 10 = .ok (.getfield 42, 3) := by decide +kernel
theorem dX3_canMeetBy_13 : decode cX3_canMeetBy 13 = .ok (.iand, 1) := by decide +kernel
theorem dX3_canMeetBy_14 : decode cX3_canMeetBy 14 = .ok (.iload_n 1, 1) := by decide +kernel
theorem dX3_canMeetBy_15 : decode cX3_canMeetBy 15 = .ok (.invokestatic 125, 3) := by decide +kernel
theorem dX3_canMeetBy_18 : decode cX3_canMeetBy 18 = .ok (.ifCond .eq 27, 3) := by decide +kernel
theorem dX3_canMeetBy_21 : decode cX3_canMeetBy 21 = .ok (.aload_n 0, 1) := by decide +kernel
theorem dX3_canMeetBy_22 : decode cX3_canMeetBy 22 = .ok (.getfield 45, 3) := by decide +kernel
theorem dX3_canMeetBy_25 : decode cX3_canMeetBy 25 = .ok (.aload_n 2, 1) := by decide +kernel
theorem dX3_canMeetBy_26 : decode cX3_canMeetBy 26 = .ok (.getfield 137, 3) := by decide +kernel
theorem dX3_canMeetBy_29 : decode cX3_canMeetBy 29 = .ok (.bipush 6, 2) := by decide +kernel
theorem dX3_canMeetBy_31 : decode cX3_canMeetBy 31 = .ok (.imul, 1) := by decide +kernel
theorem dX3_canMeetBy_32 : decode cX3_canMeetBy 32 = .ok (.aload_n 3, 1) := by decide +kernel
theorem dX3_canMeetBy_33 : decode cX3_canMeetBy 33 = .ok (.getfield 137, 3) := by decide +kernel
theorem dX3_canMeetBy_36 : decode cX3_canMeetBy 36 = .ok (.iadd, 1) := by decide +kernel
theorem dX3_canMeetBy_37 : decode cX3_canMeetBy 37 = .ok (.baload, 1) := by decide +kernel
theorem dX3_canMeetBy_38 : decode cX3_canMeetBy 38 = .ok (.ifCond .ne 7, 3) := by decide +kernel
theorem dX3_canMeetBy_41 : decode cX3_canMeetBy 41 = .ok (.iconst 1, 1) := by decide +kernel
theorem dX3_canMeetBy_42 : decode cX3_canMeetBy 42 = .ok (.goto 4, 3) := by decide +kernel
theorem dX3_canMeetBy_45 : decode cX3_canMeetBy 45 = .ok (.iconst 0, 1) := by decide +kernel
theorem dX3_canMeetBy_46 : decode cX3_canMeetBy 46 = .ok (.ireturn, 1) := by decide +kernel
theorem dX3_sharedLetters_0 : decode cX3_sharedLetters 0 = .ok (.aload_n 2, 1) := by decide +kernel
theorem dX3_sharedLetters_1 : decode cX3_sharedLetters 1 = .ok (.getfield 112, 3) := by decide +kernel
theorem dX3_sharedLetters_4 : decode cX3_sharedLetters 4 = .ok (.arraylength, 1) := by decide +kernel
theorem dX3_sharedLetters_5 : decode cX3_sharedLetters 5 = .ok (.iload_n 3, 1) := by decide +kernel
theorem dX3_sharedLetters_6 : decode cX3_sharedLetters 6 = .ok (.isub, 1) := by decide +kernel
theorem dX3_sharedLetters_7 : decode cX3_sharedLetters 7 = .ok (.aload_n 0, 1) := by decide +kernel
theorem dX3_sharedLetters_8 : decode cX3_sharedLetters 8 = .ok (.getfield 16, 3) := by decide +kernel
theorem dX3_sharedLetters_11 : decode cX3_sharedLetters 11 = .ok (.iload_n 1, 1) := by decide +kernel
theorem dX3_sharedLetters_12 : decode cX3_sharedLetters 12 = .ok (.isub, 1) := by decide +kernel
theorem dX3_sharedLetters_13 : decode cX3_sharedLetters 13 = .ok (.invokestatic 53, 3) := by decide +kernel
theorem dX3_sharedLetters_16 : decode cX3_sharedLetters 16 = .ok (.istore 4, 2) := by decide +kernel
theorem dX3_sharedLetters_18 : decode cX3_sharedLetters 18 = .ok (.iconst 0, 1) := by decide +kernel
theorem dX3_sharedLetters_19 : decode cX3_sharedLetters 19 = .ok (.istore 5, 2) := by decide +kernel
theorem dX3_sharedLetters_21 : decode cX3_sharedLetters 21 = .ok (.iload 5, 2) := by decide +kernel
theorem dX3_sharedLetters_23 : decode cX3_sharedLetters 23 = .ok (.iload 4, 2) := by decide +kernel
theorem dX3_sharedLetters_25 : decode cX3_sharedLetters 25 = .ok (.if_icmp .ge 30, 3) := by decide +kernel
theorem dX3_sharedLetters_28 : decode cX3_sharedLetters 28 = .ok (.aload_n 2, 1) := by decide +kernel
theorem dX3_sharedLetters_29 : decode cX3_sharedLetters 29 = .ok (.getfield 112, 3) := by decide +kernel
theorem dX3_sharedLetters_32 : decode cX3_sharedLetters 32 = .ok (.iload_n 3, 1) := by decide +kernel
theorem dX3_sharedLetters_33 : decode cX3_sharedLetters 33 = .ok (.iload 5, 2) := by decide +kernel
theorem dX3_sharedLetters_35 : decode cX3_sharedLetters 35 = .ok (.iadd, 1) := by decide +kernel
theorem dX3_sharedLetters_36 : decode cX3_sharedLetters 36 = .ok (.baload, 1) := by decide +kernel
theorem dX3_sharedLetters_37 : decode cX3_sharedLetters 37 = .ok (.aload_n 0, 1) := by decide +kernel
theorem dX3_sharedLetters_38 : decode cX3_sharedLetters 38 = .ok (.getfield 20, 3) := by decide +kernel
theorem dX3_sharedLetters_41 : decode cX3_sharedLetters 41 = .ok (.iload_n 1, 1) := by decide +kernel
theorem dX3_sharedLetters_42 : decode cX3_sharedLetters 42 = .ok (.iload 5, 2) := by decide +kernel
theorem dX3_sharedLetters_44 : decode cX3_sharedLetters 44 = .ok (.iadd, 1) := by decide +kernel
theorem dX3_sharedLetters_45 : decode cX3_sharedLetters 45 = .ok (.baload, 1) := by decide +kernel
theorem dX3_sharedLetters_46 : decode cX3_sharedLetters 46 = .ok (.if_icmp .ne 9, 3) := by decide +kernel
theorem dX3_sharedLetters_49 : decode cX3_sharedLetters 49 = .ok (.iinc 5 1, 3) := by decide +kernel
theorem dX3_sharedLetters_52 : decode cX3_sharedLetters 52 = .ok (.goto (-31), 3) := by decide +kernel
theorem dX3_sharedLetters_55 : decode cX3_sharedLetters 55 = .ok (.iload 5, 2) := by decide +kernel
theorem dX3_sharedLetters_57 : decode cX3_sharedLetters 57 = .ok (.ireturn, 1) := by decide +kernel
theorem dX3_placeBehind_0 : decode cX3_placeBehind 0 = .ok (.iload_n 2, 1) := by decide +kernel
theorem dX3_placeBehind_1 : decode cX3_placeBehind 1 = .ok (.aload 4, 2) := by decide +kernel
theorem dX3_placeBehind_3 : decode cX3_placeBehind 3 = .ok (.getfield 166, 3) := by decide +kernel
theorem dX3_placeBehind_6 : decode cX3_placeBehind 6 = .ok (.isub, 1) := by decide +kernel
theorem dX3_placeBehind_7 : decode cX3_placeBehind 7 = .ok (.istore 5, 2) := by decide +kernel
theorem dX3_placeBehind_9 : decode cX3_placeBehind 9 = .ok (.iload 5, 2) := by decide +kernel
theorem dX3_placeBehind_11 : decode cX3_placeBehind 11 = .ok (.iconst 1, 1) := by decide +kernel
theorem dX3_placeBehind_12 : decode cX3_placeBehind 12 = .ok (.if_icmp .lt 9, 3) := by decide +kernel
theorem dX3_placeBehind_15 : decode cX3_placeBehind 15 = .ok (.iload 5, 2) := by decide +kernel
theorem dX3_placeBehind_17 : decode cX3_placeBehind 17 = .ok (.iload_n 3, 1) := by decide +kernel
theorem dX3_placeBehind_18 : decode cX3_placeBehind 18 = .ok (.if_icmp .le 5, 3) := by decide +kernel
theorem dX3_placeBehind_21 : decode cX3_placeBehind 21 = .ok (.iconst (-1), 1) := by decide +kernel
theorem dX3_placeBehind_22 : decode cX3_placeBehind 22 = .ok (.ireturn, 1) := by decide +kernel
theorem dX3_placeBehind_23 : decode cX3_placeBehind 23 = .ok (.aload 4, 2) := by decide +kernel
theorem dX3_placeBehind_25 : decode cX3_placeBehind 25 = .ok (.aload 4, 2) := by decide +kernel
theorem dX3_placeBehind_27 : decode cX3_placeBehind 27 = .ok (.getfield 169, 3) := by decide +kernel
theorem dX3_placeBehind_30 : decode cX3_placeBehind 30 = .ok (.aload 4, 2) := by decide +kernel
theorem dX3_placeBehind_32 : decode cX3_placeBehind 32 = .ok (.getfield 172, 3) := by decide +kernel
theorem dX3_placeBehind_35 : decode cX3_placeBehind 35 = .ok (.aload_n 0, 1) := by decide +kernel
theorem dX3_placeBehind_36 : decode cX3_placeBehind 36 = .ok (.getfield 20, 3) := by decide +kernel
theorem dX3_placeBehind_39 : decode cX3_placeBehind 39 = .ok (.aload_n 0, 1) := by decide +kernel
theorem dX3_placeBehind_40 : decode cX3_placeBehind 40 = .ok (.getfield 16, 3) := by decide +kernel
theorem dX3_placeBehind_43 : decode cX3_placeBehind 43 = .ok (.iload_n 1, 1) := by decide +kernel
theorem dX3_placeBehind_44 : decode cX3_placeBehind 44 = .ok (.iload 5, 2) := by decide +kernel
theorem dX3_placeBehind_46 : decode cX3_placeBehind 46 = .ok (.iadd, 1) := by decide +kernel
theorem dX3_placeBehind_47 : decode cX3_placeBehind 47 = .ok (.invokevirtual 175, 3) := by decide +kernel
theorem dX3_placeBehind_50 : decode cX3_placeBehind 50 = .ok (.istore 6, 2) := by decide +kernel
theorem dX3_placeBehind_52 : decode cX3_placeBehind 52 = .ok (.iload_n 1, 1) := by decide +kernel
theorem dX3_placeBehind_53 : decode cX3_placeBehind 53 = .ok (.iload 5, 2) := by decide +kernel
theorem dX3_placeBehind_55 : decode cX3_placeBehind 55 = .ok (.iadd, 1) := by decide +kernel
theorem dX3_placeBehind_56 : decode cX3_placeBehind 56 = .ok (.aload 4, 2) := by decide +kernel
theorem dX3_placeBehind_58 : decode cX3_placeBehind 58 = .ok (.getfield 172, 3) := by decide +kernel
theorem dX3_placeBehind_61 : decode cX3_placeBehind 61 = .ok (.iadd, 1) := by decide +kernel
theorem dX3_placeBehind_62 : decode cX3_placeBehind 62 = .ok (.istore 7, 2) := by decide +kernel
theorem dX3_placeBehind_64 : decode cX3_placeBehind 64 = .ok (.iload 6, 2) := by decide +kernel
theorem dX3_placeBehind_66 : decode cX3_placeBehind 66 = .ok (.ifCond .eq 17, 3) := by decide +kernel
theorem dX3_placeBehind_69 : decode cX3_placeBehind 69 = .ok (.iload 7, 2) := by decide +kernel
theorem dX3_placeBehind_71 : decode cX3_placeBehind 71 = .ok (.aload_n 0, 1) := by decide +kernel
theorem dX3_placeBehind_72 : decode cX3_placeBehind 72 = .ok (.getfield 16, 3) := by decide +kernel
theorem dX3_placeBehind_75 : decode cX3_placeBehind 75 = .ok (.if_icmp .ge 8, 3) := by decide +kernel
theorem dX3_placeBehind_78 : decode cX3_placeBehind 78 = .ok (.iload 7, 2) := by decide +kernel
theorem dX3_placeBehind_80 : decode cX3_placeBehind 80 = .ok (.goto 4, 3) := by decide +kernel
theorem dX3_placeBehind_83 : decode cX3_placeBehind 83 = .ok (.iconst (-1), 1) := by decide +kernel
theorem dX3_placeBehind_84 : decode cX3_placeBehind 84 = .ok (.ireturn, 1) := by decide +kernel
theorem dX4_init_0 : decode cX4_init 0 = .ok (.aload_n 0, 1) := by decide +kernel
theorem dX4_init_1 : decode cX4_init 1 = .ok (.invokespecial 5, 3) := by decide +kernel
theorem dX4_init_4 : decode cX4_init 4 = .ok (.aload_n 0, 1) := by decide +kernel
theorem dX4_init_5 : decode cX4_init 5 = .ok (.lconst 0, 1) := by decide +kernel
theorem dX4_init_6 : decode cX4_init 6 = .ok (.putfield 11, 3) := by decide +kernel
theorem dX4_init_9 : decode cX4_init 9 = .ok (.aload_n 0, 1) := by decide +kernel
theorem dX4_init_10 : decode cX4_init 10 = .ok (.lconst 0, 1) := by decide +kernel
theorem dX4_init_11 : decode cX4_init 11 = .ok (.putfield 15, 3) := by decide +kernel
theorem dX4_init_14 : decode cX4_init 14 = .ok (.aload_n 0, 1) := by decide +kernel
theorem dX4_init_15 : decode cX4_init 15 = .ok (.iconst 0, 1) := by decide +kernel
theorem dX4_init_16 : decode cX4_init 16 = .ok (.putfield 18, 3) := by decide +kernel
theorem dX4_init_19 : decode cX4_init 19 = .ok (.aload_n 0, 1) := by decide +kernel
theorem dX4_init_20 : decode cX4_init 20 = .ok (.bipush 8, 2) := by decide +kernel
theorem dX4_init_22 : decode cX4_init 22 = .ok (.anewarray 22, 3) := by decide +kernel
theorem dX4_init_25 : decode cX4_init 25 = .ok (.putfield 24, 3) := by decide +kernel
theorem dX4_init_28 : decode cX4_init 28 = .ok (.aload_n 0, 1) := by decide +kernel
theorem dX4_init_29 : decode cX4_init 29 = .ok (.iconst 0, 1) := by decide +kernel
theorem dX4_init_30 : decode cX4_init 30 = .ok (.putfield 28, 3) := by decide +kernel
theorem dX4_init_33 : decode cX4_init 33 = .ok (.aload_n 0, 1) := by decide +kernel
theorem dX4_init_34 : decode cX4_init 34 = .ok (.bipush 8, 2) := by decide +kernel
theorem dX4_init_36 : decode cX4_init 36 = .ok (.anewarray 22, 3) := by decide +kernel
theorem dX4_init_39 : decode cX4_init 39 = .ok (.putfield 32, 3) := by decide +kernel
theorem dX4_init_42 : decode cX4_init 42 = .ok (.aload_n 0, 1) := by decide +kernel
theorem dX4_init_43 : decode cX4_init 43 = .ok (.bipush 8, 2) := by decide +kernel
theorem dX4_init_45 : decode cX4_init 45 = .ok (.newarray .int, 2) := by decide +kernel
theorem dX4_init_47 : decode cX4_init 47 = .ok (.putfield 35, 3) := by decide +kernel
theorem dX4_init_50 : decode cX4_init 50 = .ok (.aload_n 0, 1) := by decide +kernel
theorem dX4_init_51 : decode cX4_init 51 = .ok (.iconst 0, 1) := by decide +kernel
theorem dX4_init_52 : decode cX4_init 52 = .ok (.putfield 39, 3) := by decide +kernel
theorem dX4_init_55 : decode cX4_init 55 = .ok (.aload_n 0, 1) := by decide +kernel
theorem dX4_init_56 : decode cX4_init 56 = .ok (.aload_n 1, 1) := by decide +kernel
theorem dX4_init_57 : decode cX4_init 57 = .ok (.putfield 42, 3) := by decide +kernel
theorem dX4_init_60 : decode cX4_init 60 = .ok (.aload_n 0, 1) := by decide +kernel
theorem dX4_init_61 : decode cX4_init 61 = .ok (.new 46, 3) := by decide +kernel
theorem dX4_init_64 : decode cX4_init 64 = .ok (.dup, 1) := by decide +kernel
theorem dX4_init_65 : decode cX4_init 65 = .ok (.aload_n 1, 1) := by decide +kernel
theorem dX4_init_66 : decode cX4_init 66 = .ok (.invokespecial 48, 3) := by decide +kernel
theorem dX4_init_69 : decode cX4_init 69 = .ok (.putfield 51, 3) := by decide +kernel
theorem dX4_init_72 : decode cX4_init 72 = .ok (.iconst 0, 1) := by decide +kernel
theorem dX4_init_73 : decode cX4_init 73 = .ok (.istore_n 2, 1) := by decide +kernel
theorem dX4_init_74 : decode cX4_init 74 = .ok (.iload_n 2, 1) := by decide +kernel
theorem dX4_init_75 : decode cX4_init 75 = .ok (.bipush 8, 2) := by decide +kernel
theorem dX4_init_77 : decode cX4_init 77 = .ok (.if_icmp .ge 35, 3) := by decide +kernel
theorem dX4_init_80 : decode cX4_init 80 = .ok (.aload_n 0, 1) := by decide +kernel
theorem dX4_init_81 : decode cX4_init 81 = .ok (.getfield 24, 3) := by decide +kernel
theorem dX4_init_84 : decode cX4_init 84 = .ok (.iload_n 2, 1) := by decide +kernel
theorem dX4_init_85 : decode cX4_init 85 = .ok (.new 22, 3) := by decide +kernel
theorem dX4_init_88 : decode cX4_init 88 = .ok (.dup, 1) := by decide +kernel
theorem dX4_init_89 : decode cX4_init 89 = .ok (.invokespecial 55, 3) := by decide +kernel
theorem dX4_init_92 : decode cX4_init 92 = .ok (.aastore, 1) := by decide +kernel
theorem dX4_init_93 : decode cX4_init 93 = .ok (.aload_n 0, 1) := by decide +kernel
theorem dX4_init_94 : decode cX4_init 94 = .ok (.getfield 32, 3) := by decide +kernel
theorem dX4_init_97 : decode cX4_init 97 = .ok (.iload_n 2, 1) := by decide +kernel
theorem dX4_init_98 : decode cX4_init 98 = .ok (.new 22, 3) := by decide +kernel
theorem dX4_init_101 : decode cX4_init 101 = .ok (.dup, 1) := by decide +kernel
theorem dX4_init_102 : decode cX4_init 102 = .ok (.invokespecial 55, 3) := by decide +kernel
theorem dX4_init_105 : decode cX4_init 105 = .ok (.aastore, 1) := by decide +kernel
theorem dX4_init_106 : decode cX4_init 106 = .ok (.iinc 2 1, 3) := by decide +kernel
theorem dX4_init_109 : decode cX4_init 109 = .ok (.goto (-35), 3) := by decide +kernel
theorem dX4_init_112 : decode cX4_init 112 = .ok (.return_, 1) := by decide +kernel
theorem dX4_countLine_0 : decode cX4_countLine 0 = .ok (.aload_n 0, 1) := by decide +kernel
theorem dX4_countLine_1 : decode cX4_countLine 1 = .ok (.getfield 51, 3) := by decide +kernel
theorem dX4_countLine_4 : decode cX4_countLine 4 = .ok (.aload_n 1, 1) := by decide +kernel
theorem dX4_countLine_5 : decode cX4_countLine 5 = .ok (.iload_n 2, 1) := by decide +kernel
theorem dX4_countLine_6 : decode cX4_countLine 6 = .ok (.iload_n 3, 1) := by decide +kernel
theorem dX4_countLine_7 : decode cX4_countLine 7 = .ok (.invokevirtual 56, 3) := by decide +kernel
theorem dX4_countLine_10 : decode cX4_countLine 10 = .ok (.aload_n 0, 1) := by decide +kernel
theorem dX4_countLine_11 : decode cX4_countLine 11 = .ok (.aload_n 0, 1) := by decide +kernel
theorem dX4_countLine_12 : decode cX4_countLine 12 = .ok (.getfield 51, 3) := by decide +kernel
theorem dX4_countLine_15 : decode cX4_countLine 15 = .ok (.iconst 0, 1) := by decide +kernel
theorem dX4_countLine_16 : decode cX4_countLine 16 = .ok (.invokevirtual 60, 3) := by decide +kernel
theorem dX4_countLine_19 : decode cX4_countLine 19 = .ok (.putfield 11, 3) := by decide +kernel
theorem dX4_countLine_22 : decode cX4_countLine 22 = .ok (.aload_n 0, 1) := by decide +kernel
theorem dX4_countLine_23 : decode cX4_countLine 23 = .ok (.aload_n 0, 1) := by decide +kernel
theorem dX4_countLine_24 : decode cX4_countLine 24 = .ok (.getfield 11, 3) := by decide +kernel
theorem dX4_countLine_27 : decode cX4_countLine 27 = .ok (.putfield 15, 3) := by decide +kernel
theorem dX4_countLine_30 : decode cX4_countLine 30 = .ok (.aload_n 0, 1) := by decide +kernel
theorem dX4_countLine_31 : decode cX4_countLine 31 = .ok (.iconst 0, 1) := by decide +kernel
theorem dX4_countLine_32 : decode cX4_countLine 32 = .ok (.putfield 18, 3) := by decide +kernel
theorem dX4_countLine_35 : decode cX4_countLine 35 = .ok (.aload_n 0, 1) := by decide +kernel
theorem dX4_countLine_36 : decode cX4_countLine 36 = .ok (.getfield 11, 3) := by decide +kernel
theorem dX4_countLine_39 : decode cX4_countLine 39 = .ok (.lconst 0, 1) := by decide +kernel
theorem dX4_countLine_40 : decode cX4_countLine 40 = .ok (.lcmp, 1) := by decide +kernel
theorem dX4_countLine_41 : decode cX4_countLine 41 = .ok (.ifCond .le 43, 3) := by decide +kernel
theorem dX4_countLine_44 : decode cX4_countLine 44 = .ok (.aload_n 0, 1) := by decide +kernel
theorem dX4_countLine_45 : decode cX4_countLine 45 = .ok (.getfield 42, 3) := by decide +kernel
theorem dX4_countLine_48 : decode cX4_countLine 48 = .ok (.invokevirtual 64, 3) := by decide +kernel
theorem dX4_countLine_51 : decode cX4_countLine 51 = .ok (.ifCond .ne 33, 3) := by decide +kernel
theorem dX4_countLine_54 : decode cX4_countLine 54 = .ok (.aload_n 0, 1) := by decide +kernel
theorem dX4_countLine_55 : decode cX4_countLine 55 = .ok (.aload_n 0, 1) := by decide +kernel
theorem dX4_countLine_56 : decode cX4_countLine 56 = .ok (.getfield 51, 3) := by decide +kernel
theorem dX4_countLine_59 : decode cX4_countLine 59 = .ok (.iconst 1, 1) := by decide +kernel
theorem dX4_countLine_60 : decode cX4_countLine 60 = .ok (.invokevirtual 60, 3) := by decide +kernel
theorem dX4_countLine_63 : decode cX4_countLine 63 = .ok (.putfield 15, 3) := by decide +kernel
theorem dX4_countLine_66 : decode cX4_countLine 66 = .ok (.aload_n 0, 1) := by decide +kernel
theorem dX4_countLine_67 : decode cX4_countLine 67 = .ok (.aload_n 0, 1) := by decide +kernel
theorem dX4_countLine_68 : decode cX4_countLine 68 = .ok (.getfield 15, 3) := by decide +kernel
theorem dX4_countLine_71 : decode cX4_countLine 71 = .ok (.lconst 0, 1) := by decide +kernel
theorem dX4_countLine_72 : decode cX4_countLine 72 = .ok (.lcmp, 1) := by decide +kernel
theorem dX4_countLine_73 : decode cX4_countLine 73 = .ok (.ifCond .ne 7, 3) := by decide +kernel
theorem dX4_countLine_76 : decode cX4_countLine 76 = .ok (.iconst 1, 1) := by decide +kernel
theorem dX4_countLine_77 : decode cX4_countLine 77 = .ok (.goto 4, 3) := by decide +kernel
theorem dX4_countLine_80 : decode cX4_countLine 80 = .ok (.iconst 0, 1) := by decide +kernel
theorem dX4_countLine_81 : decode cX4_countLine 81 = .ok (.putfield 18, 3) := by decide +kernel
theorem dX4_countLine_84 : decode cX4_countLine 84 = .ok (.aload_n 0, 1) := by decide +kernel
theorem dX4_countLine_85 : decode cX4_countLine 85 = .ok (.getfield 18, 3) := by decide +kernel
theorem dX4_countLine_88 : decode cX4_countLine 88 = .ok (.ifCond .eq 15, 3) := by decide +kernel
theorem dX4_countLine_91 : decode cX4_countLine 91 = .ok (.aload_n 0, 1) := by decide +kernel
theorem dX4_countLine_92 : decode cX4_countLine 92 = .ok (.aload_n 0, 1) := by decide +kernel
theorem dX4_countLine_93 : decode cX4_countLine 93 = .ok (.getfield 51, 3) := by decide +kernel
theorem dX4_countLine_96 : decode cX4_countLine 96 = .ok (.iconst 0, 1) := by decide +kernel
theorem dX4_countLine_97 : decode cX4_countLine 97 = .ok (.invokevirtual 60, 3) := by decide +kernel
theorem dX4_countLine_100 : decode cX4_countLine 100 = .ok (.putfield 15, 3) := by decide +kernel
theorem dX4_countLine_103 : decode cX4_countLine 103 = .ok (.return_, 1) := by decide +kernel
theorem dX4_tell_0 : decode cX4_tell 0 = .ok (.aload_n 0, 1) := by decide +kernel
theorem dX4_tell_1 : decode cX4_tell 1 = .ok (.invokevirtual 70, 3) := by decide +kernel
theorem dX4_tell_4 : decode cX4_tell 4 = .ok (.iconst 0, 1) := by decide +kernel
theorem dX4_tell_5 : decode cX4_tell 5 = .ok (.istore_n 1, 1) := by decide +kernel
theorem dX4_tell_6 : decode cX4_tell 6 = .ok (.iload_n 1, 1) := by decide +kernel
theorem dX4_tell_7 : decode cX4_tell 7 = .ok (.aload_n 0, 1) := by decide +kernel
theorem dX4_tell_8 : decode cX4_tell 8 = .ok (.getfield 51, 3) := by decide +kernel
theorem dX4_tell_11 : decode cX4_tell 11 = .ok (.getfield 73, 3) := by decide +kernel
theorem dX4_tell_14 : decode cX4_tell 14 = .ok (.if_icmp .ge 20, 3) := by decide +kernel
theorem dX4_tell_17 : decode cX4_tell 17 = .ok (.aload_n 0, 1) := by decide +kernel
theorem dX4_tell_18 : decode cX4_tell 18 = .ok (.invokevirtual 76, 3) := by decide +kernel
theorem dX4_tell_21 : decode cX4_tell 21 = .ok (.ifCond .ne 13, 3) := by decide +kernel
theorem dX4_tell_24 : decode cX4_tell 24 = .ok (.aload_n 0, 1) := by decide +kernel
theorem dX4_tell_25 : decode cX4_tell 25 = .ok (.invokevirtual 79, 3) := by decide +kernel
theorem dX4_tell_28 : decode cX4_tell 28 = .ok (.iinc 1 1, 3) := by decide +kernel
theorem dX4_tell_31 : decode cX4_tell 31 = .ok (.goto (-25), 3) := by decide +kernel
theorem dX4_tell_34 : decode cX4_tell 34 = .ok (.return_, 1) := by decide +kernel
theorem dX4_allEnded_0 : decode cX4_allEnded 0 = .ok (.iconst 0, 1) := by decide +kernel
theorem dX4_allEnded_1 : decode cX4_allEnded 1 = .ok (.istore_n 1, 1) := by decide +kernel
theorem dX4_allEnded_2 : decode cX4_allEnded 2 = .ok (.iload_n 1, 1) := by decide +kernel
theorem dX4_allEnded_3 : decode cX4_allEnded 3 = .ok (.aload_n 0, 1) := by decide +kernel
theorem dX4_allEnded_4 : decode cX4_allEnded 4 = .ok (.getfield 28, 3) := by decide +kernel
theorem dX4_allEnded_7 : decode cX4_allEnded 7 = .ok (.if_icmp .ge 23, 3) := by decide +kernel
theorem dX4_allEnded_10 : decode cX4_allEnded 10 = .ok (.aload_n 0, 1) := by decide +kernel
theorem dX4_allEnded_11 : decode cX4_allEnded 11 = .ok (.getfield 24, 3) := by decide +kernel
theorem dX4_allEnded_14 : decode cX4_allEnded 14 = .ok (.iload_n 1, 1) := by decide +kernel
theorem dX4_allEnded_15 : decode cX4_allEnded 15 = .ok (.aaload, 1) := by decide +kernel
theorem dX4_allEnded_16 : decode cX4_allEnded 16 = .ok (.getfield 82, 3) := by decide +kernel
theorem dX4_allEnded_19 : decode cX4_allEnded 19 = .ok (.ifCond .ne 5, 3) := by decide +kernel
theorem dX4_allEnded_22 : decode cX4_allEnded 22 = .ok (.iconst 0, 1) := by decide +kernel
theorem dX4_allEnded_23 : decode cX4_allEnded 23 = .ok (.ireturn, 1) := by decide +kernel
theorem dX4_allEnded_24 : decode cX4_allEnded 24 = .ok (.iinc 1 1, 3) := by decide +kernel
theorem dX4_allEnded_27 : decode cX4_allEnded 27 = .ok (.goto (-25), 3) := by decide +kernel
theorem dX4_allEnded_30 : decode cX4_allEnded 30 = .ok (.iconst 1, 1) := by decide +kernel
theorem dX4_allEnded_31 : decode cX4_allEnded 31 = .ok (.ireturn, 1) := by decide +kernel
theorem dX4_startPaths_0 : decode cX4_startPaths 0 = .ok (.aload_n 0, 1) := by decide +kernel
theorem dX4_startPaths_1 : decode cX4_startPaths 1 = .ok (.iconst 0, 1) := by decide +kernel
theorem dX4_startPaths_2 : decode cX4_startPaths 2 = .ok (.putfield 39, 3) := by decide +kernel
theorem dX4_startPaths_5 : decode cX4_startPaths 5 = .ok (.iconst 0, 1) := by decide +kernel
theorem dX4_startPaths_6 : decode cX4_startPaths 6 = .ok (.istore_n 1, 1) := by decide +kernel
theorem dX4_startPaths_7 : decode cX4_startPaths 7 = .ok (.iload_n 1, 1) := by decide +kernel
theorem dX4_startPaths_8 : decode cX4_startPaths 8 = .ok (.aload_n 0, 1) := by decide +kernel
theorem dX4_startPaths_9 : decode cX4_startPaths 9 = .ok (.getfield 42, 3) := by decide +kernel
theorem dX4_startPaths_12 : decode cX4_startPaths 12 = .ok (.getfield 85, 3) := by decide +kernel
theorem dX4_startPaths_15 : decode cX4_startPaths 15 = .ok (.if_icmp .ge 29, 3) := by decide +kernel
theorem dX4_startPaths_18 : decode cX4_startPaths 18 = .ok (.aload_n 0, 1) := by decide +kernel
theorem dX4_startPaths_19 : decode cX4_startPaths 19 = .ok (.aload_n 0, 1) := by decide +kernel
theorem dX4_startPaths_20 : decode cX4_startPaths 20 = .ok (.getfield 51, 3) := by decide +kernel
theorem dX4_startPaths_23 : decode cX4_startPaths 23 = .ok (.getfield 88, 3) := by decide +kernel
theorem dX4_startPaths_26 : decode cX4_startPaths 26 = .ok (.iconst 0, 1) := by decide +kernel
theorem dX4_startPaths_27 : decode cX4_startPaths 27 = .ok (.aaload, 1) := by decide +kernel
theorem dX4_startPaths_28 : decode cX4_startPaths 28 = .ok (.iload_n 1, 1) := by decide +kernel
theorem dX4_startPaths_29 : decode cX4_startPaths 29 = .ok (.iconst 4, 1) := by decide +kernel
theorem dX4_startPaths_30 : decode cX4_startPaths 30 = .ok (.imul, 1) := by decide +kernel
theorem dX4_startPaths_31 : decode cX4_startPaths 31 = .ok (.iaload, 1) := by decide +kernel
theorem dX4_startPaths_32 : decode cX4_startPaths 32 = .ok (.iconst 0, 1) := by decide +kernel
theorem dX4_startPaths_33 : decode cX4_startPaths 33 = .ok (.iconst 1, 1) := by decide +kernel
theorem dX4_startPaths_34 : decode cX4_startPaths 34 = .ok (.iload_n 1, 1) := by decide +kernel
theorem dX4_startPaths_35 : decode cX4_startPaths 35 = .ok (.invokevirtual 92, 3) := by decide +kernel
theorem dX4_startPaths_38 : decode cX4_startPaths 38 = .ok (.iinc 1 1, 3) := by decide +kernel
theorem dX4_startPaths_41 : decode cX4_startPaths 41 = .ok (.goto (-34), 3) := by decide +kernel
theorem dX4_startPaths_44 : decode cX4_startPaths 44 = .ok (.aload_n 0, 1) := by decide +kernel
theorem dX4_startPaths_45 : decode cX4_startPaths 45 = .ok (.aload_n 0, 1) := by decide +kernel
theorem dX4_startPaths_46 : decode cX4_startPaths 46 = .ok (.getfield 39, 3) := by decide +kernel
theorem dX4_startPaths_49 : decode cX4_startPaths 49 = .ok (.putfield 28, 3) := by decide +kernel
theorem dX4_startPaths_52 : decode cX4_startPaths 52 = .ok (.iconst 0, 1) := by decide +kernel
theorem dX4_startPaths_53 : decode cX4_startPaths 53 = .ok (.istore_n 1, 1) := by decide +kernel
theorem dX4_startPaths_54 : decode cX4_startPaths 54 = .ok (.iload_n 1, 1) := by decide +kernel
theorem dX4_startPaths_55 : decode cX4_startPaths 55 = .ok (.aload_n 0, 1) := by decide +kernel
theorem dX4_startPaths_56 : decode cX4_startPaths 56 = .ok (.getfield 39, 3) := by decide +kernel
theorem dX4_startPaths_59 : decode cX4_startPaths 59 = .ok (.if_icmp .ge 90, 3) := by decide +kernel
theorem dX4_startPaths_62 : decode cX4_startPaths 62 = .ok (.aload_n 0, 1) := by decide +kernel
theorem dX4_startPaths_63 : decode cX4_startPaths 63 = .ok (.getfield 24, 3) := by decide +kernel
theorem dX4_startPaths_66 : decode cX4_startPaths 66 = .ok (.iload_n 1, 1) := by decide +kernel
theorem dX4_startPaths_67 : decode cX4_startPaths 67 = .ok (.aaload, 1) := by decide +kernel
theorem dX4_startPaths_68 : decode cX4_startPaths 68 = .ok (.astore_n 2, 1) := by decide +kernel
theorem dX4_startPaths_69 : decode cX4_startPaths 69 = .ok (.aload_n 2, 1) := by decide +kernel
theorem dX4_startPaths_70 : decode cX4_startPaths 70 = .ok (.getfield 96, 3) := by decide +kernel
theorem dX4_startPaths_73 : decode cX4_startPaths 73 = .ok (.iconst 0, 1) := by decide +kernel
theorem dX4_startPaths_74 : decode cX4_startPaths 74 = .ok (.putfield 100, 3) := by decide +kernel
theorem dX4_startPaths_77 : decode cX4_startPaths 77 = .ok (.aload_n 2, 1) := by decide +kernel
theorem dX4_startPaths_78 : decode cX4_startPaths 78 = .ok (.getfield 96, 3) := by decide +kernel
theorem dX4_startPaths_81 : decode cX4_startPaths 81 = .ok (.aload_n 0, 1) := by decide +kernel
theorem dX4_startPaths_82 : decode cX4_startPaths 82 = .ok (.getfield 42, 3) := by decide +kernel
theorem dX4_startPaths_85 : decode cX4_startPaths 85 = .ok (.aload_n 0, 1) := by decide +kernel
theorem dX4_startPaths_86 : decode cX4_startPaths 86 = .ok (.getfield 35, 3) := by decide +kernel
theorem dX4_startPaths_89 : decode cX4_startPaths 89 = .ok (.iload_n 1, 1) := by decide +kernel
theorem dX4_startPaths_90 : decode cX4_startPaths 90 = .ok (.iaload, 1) := by decide +kernel
theorem dX4_startPaths_91 : decode cX4_startPaths 91 = .ok (.invokestatic 103, 3) := by decide +kernel
theorem dX4_startPaths_94 : decode cX4_startPaths 94 = .ok (.invokevirtual 107, 3) := by decide +kernel
theorem dX4_startPaths_97 : decode cX4_startPaths 97 = .ok (.aconst_null, 1) := by decide +kernel
theorem dX4_startPaths_98 : decode cX4_startPaths 98 = .ok (.invokevirtual 111, 3) := by decide +kernel
theorem dX4_startPaths_101 : decode cX4_startPaths 101 = .ok (.aload_n 2, 1) := by decide +kernel
theorem dX4_startPaths_102 : decode cX4_startPaths 102 = .ok (.aload_n 0, 1) := by decide +kernel
theorem dX4_startPaths_103 : decode cX4_startPaths 103 = .ok (.getfield 35, 3) := by decide +kernel
theorem dX4_startPaths_106 : decode cX4_startPaths 106 = .ok (.iload_n 1, 1) := by decide +kernel
theorem dX4_startPaths_107 : decode cX4_startPaths 107 = .ok (.iaload, 1) := by decide +kernel
theorem dX4_startPaths_108 : decode cX4_startPaths 108 = .ok (.bipush 14, 2) := by decide +kernel
theorem dX4_startPaths_110 : decode cX4_startPaths 110 = .ok (.ishr, 1) := by decide +kernel
theorem dX4_startPaths_111 : decode cX4_startPaths 111 = .ok (.putfield 115, 3) := by decide +kernel
theorem dX4_startPaths_114 : decode cX4_startPaths 114 = .ok (.aload_n 2, 1) := by decide +kernel
theorem dX4_startPaths_115 : decode cX4_startPaths 115 = .ok (.iconst 0, 1) := by decide +kernel
theorem dX4_startPaths_116 : decode cX4_startPaths 116 = .ok (.putfield 118, 3) := by decide +kernel
theorem dX4_startPaths_119 : decode cX4_startPaths 119 = .ok (.aload_n 2, 1) := by decide +kernel
theorem dX4_startPaths_120 : decode cX4_startPaths 120 = .ok (.iconst 0, 1) := by decide +kernel
theorem dX4_startPaths_121 : decode cX4_startPaths 121 = .ok (.putfield 121, 3) := by decide +kernel
theorem dX4_startPaths_124 : decode cX4_startPaths 124 = .ok (.aload_n 2, 1) := by decide +kernel
theorem dX4_startPaths_125 : decode cX4_startPaths 125 = .ok (.iconst 0, 1) := by decide +kernel
theorem dX4_startPaths_126 : decode cX4_startPaths 126 = .ok (.putfield 82, 3) := by decide +kernel
theorem dX4_startPaths_129 : decode cX4_startPaths 129 = .ok (.aload_n 2, 1) := by decide +kernel
theorem dX4_startPaths_130 : decode cX4_startPaths 130 = .ok (.aload_n 0, 1) := by decide +kernel
theorem dX4_startPaths_131 : decode cX4_startPaths 131 = .ok (.aload_n 0, 1) := by decide +kernel
theorem dX4_startPaths_132 : decode cX4_startPaths 132 = .ok (.getfield 35, 3) := by decide +kernel
theorem dX4_startPaths_135 : decode cX4_startPaths 135 = .ok (.iload_n 1, 1) := by decide +kernel
theorem dX4_startPaths_136 : decode cX4_startPaths 136 = .ok (.iaload, 1) := by decide +kernel
theorem dX4_startPaths_137 : decode cX4_startPaths 137 = .ok (.invokevirtual 124, 3) := by decide +kernel
theorem dX4_startPaths_140 : decode cX4_startPaths 140 = .ok (.putfield 127, 3) := by decide +kernel
theorem dX4_startPaths_143 : decode cX4_startPaths 143 = .ok (.iinc 1 1, 3) := by decide +kernel
theorem dX4_startPaths_146 : decode cX4_startPaths 146 = .ok (.goto (-92), 3) := by decide +kernel
theorem dX4_startPaths_149 : decode cX4_startPaths 149 = .ok (.return_, 1) := by decide +kernel
theorem dX4_growPaths_0 : decode cX4_growPaths 0 = .ok (.aload_n 0, 1) := by decide +kernel
theorem dX4_growPaths_1 : decode cX4_growPaths 1 = .ok (.iconst 0, 1) := by decide +kernel
theorem dX4_growPaths_2 : decode cX4_growPaths 2 = .ok (.putfield 39, 3) := by decide +kernel
theorem dX4_growPaths_5 : decode cX4_growPaths 5 = .ok (.iconst 0, 1) := by decide +kernel
theorem dX4_growPaths_6 : decode cX4_growPaths 6 = .ok (.istore_n 1, 1) := by decide +kernel
theorem dX4_growPaths_7 : decode cX4_growPaths 7 = .ok (.iload_n 1, 1) := by decide +kernel
theorem dX4_growPaths_8 : decode cX4_growPaths 8 = .ok (.aload_n 0, 1) := by decide +kernel
theorem dX4_growPaths_9 : decode cX4_growPaths 9 = .ok (.getfield 28, 3) := by decide +kernel
theorem dX4_growPaths_12 : decode cX4_growPaths 12 = .ok (.if_icmp .ge 68, 3) := by decide +kernel
theorem dX4_growPaths_15 : decode cX4_growPaths 15 = .ok (.aload_n 0, 1) := by decide +kernel
theorem dX4_growPaths_16 : decode cX4_growPaths 16 = .ok (.getfield 24, 3) := by decide +kernel
theorem dX4_growPaths_19 : decode cX4_growPaths 19 = .ok (.iload_n 1, 1) := by decide +kernel
theorem dX4_growPaths_20 : decode cX4_growPaths 20 = .ok (.aaload, 1) := by decide +kernel
theorem dX4_growPaths_21 : decode cX4_growPaths 21 = .ok (.getfield 82, 3) := by decide +kernel
theorem dX4_growPaths_24 : decode cX4_growPaths 24 = .ok (.ifCond .eq 30, 3) := by decide +kernel
theorem dX4_growPaths_27 : decode cX4_growPaths 27 = .ok (.aload_n 0, 1) := by decide +kernel
theorem dX4_growPaths_28 : decode cX4_growPaths 28 = .ok (.aload_n 0, 1) := by decide +kernel
theorem dX4_growPaths_29 : decode cX4_growPaths 29 = .ok (.getfield 24, 3) := by decide +kernel
theorem dX4_growPaths_32 : decode cX4_growPaths 32 = .ok (.iload_n 1, 1) := by decide +kernel
theorem dX4_growPaths_33 : decode cX4_growPaths 33 = .ok (.aaload, 1) := by decide +kernel
theorem dX4_growPaths_34 : decode cX4_growPaths 34 = .ok (.getfield 115, 3) := by decide +kernel
theorem dX4_growPaths_37 : decode cX4_growPaths 37 = .ok (.aload_n 0, 1) := by decide +kernel
theorem dX4_growPaths_38 : decode cX4_growPaths 38 = .ok (.getfield 24, 3) := by decide +kernel
theorem dX4_growPaths_41 : decode cX4_growPaths 41 = .ok (.iload_n 1, 1) := by decide +kernel
theorem dX4_growPaths_42 : decode cX4_growPaths 42 = .ok (.aaload, 1) := by decide +kernel
theorem dX4_growPaths_43 : decode cX4_growPaths 43 = .ok (.getfield 127, 3) := by decide +kernel
theorem dX4_growPaths_46 : decode cX4_growPaths 46 = .ok (.iconst 0, 1) := by decide +kernel
theorem dX4_growPaths_47 : decode cX4_growPaths 47 = .ok (.iconst 0, 1) := by decide +kernel
theorem dX4_growPaths_48 : decode cX4_growPaths 48 = .ok (.invokevirtual 92, 3) := by decide +kernel
theorem dX4_growPaths_51 : decode cX4_growPaths 51 = .ok (.goto 23, 3) := by decide +kernel
theorem dX4_growPaths_54 : decode cX4_growPaths 54 = .ok (.aload_n 0, 1) := by decide +kernel
theorem dX4_growPaths_55 : decode cX4_growPaths 55 = .ok (.aload_n 0, 1) := by decide +kernel
theorem dX4_growPaths_56 : decode cX4_growPaths 56 = .ok (.getfield 24, 3) := by decide +kernel
theorem dX4_growPaths_59 : decode cX4_growPaths 59 = .ok (.iload_n 1, 1) := by decide +kernel
theorem dX4_growPaths_60 : decode cX4_growPaths 60 = .ok (.aaload, 1) := by decide +kernel
theorem dX4_growPaths_61 : decode cX4_growPaths 61 = .ok (.invokevirtual 130, 3) := by decide +kernel
theorem dX4_growPaths_64 : decode cX4_growPaths 64 = .ok (.aload_n 0, 1) := by decide +kernel
theorem dX4_growPaths_65 : decode cX4_growPaths 65 = .ok (.aload_n 0, 1) := by decide +kernel
theorem dX4_growPaths_66 : decode cX4_growPaths 66 = .ok (.getfield 24, 3) := by decide +kernel
theorem dX4_growPaths_69 : decode cX4_growPaths 69 = .ok (.iload_n 1, 1) := by decide +kernel
theorem dX4_growPaths_70 : decode cX4_growPaths 70 = .ok (.aaload, 1) := by decide +kernel
theorem dX4_growPaths_71 : decode cX4_growPaths 71 = .ok (.invokevirtual 134, 3) := by decide +kernel
theorem dX4_growPaths_74 : decode cX4_growPaths 74 = .ok (.iinc 1 1, 3) := by decide +kernel
theorem dX4_growPaths_77 : decode cX4_growPaths 77 = .ok (.goto (-70), 3) := by decide +kernel
theorem dX4_growPaths_80 : decode cX4_growPaths 80 = .ok (.iconst 0, 1) := by decide +kernel
theorem dX4_growPaths_81 : decode cX4_growPaths 81 = .ok (.istore_n 1, 1) := by decide +kernel
theorem dX4_growPaths_82 : decode cX4_growPaths 82 = .ok (.iload_n 1, 1) := by decide +kernel
theorem dX4_growPaths_83 : decode cX4_growPaths 83 = .ok (.aload_n 0, 1) := by decide +kernel
theorem dX4_growPaths_84 : decode cX4_growPaths 84 = .ok (.getfield 39, 3) := by decide +kernel
theorem dX4_growPaths_87 : decode cX4_growPaths 87 = .ok (.if_icmp .ge 25, 3) := by decide +kernel
theorem dX4_growPaths_90 : decode cX4_growPaths 90 = .ok (.aload_n 0, 1) := by decide +kernel
theorem dX4_growPaths_91 : decode cX4_growPaths 91 = .ok (.aload_n 0, 1) := by decide +kernel
theorem dX4_growPaths_92 : decode cX4_growPaths 92 = .ok (.getfield 32, 3) := by decide +kernel
theorem dX4_growPaths_95 : decode cX4_growPaths 95 = .ok (.iload_n 1, 1) := by decide +kernel
theorem dX4_growPaths_96 : decode cX4_growPaths 96 = .ok (.aaload, 1) := by decide +kernel
theorem dX4_growPaths_97 : decode cX4_growPaths 97 = .ok (.aload_n 0, 1) := by decide +kernel
theorem dX4_growPaths_98 : decode cX4_growPaths 98 = .ok (.getfield 35, 3) := by decide +kernel
theorem dX4_growPaths_101 : decode cX4_growPaths 101 = .ok (.iload_n 1, 1) := by decide +kernel
theorem dX4_growPaths_102 : decode cX4_growPaths 102 = .ok (.iaload, 1) := by decide +kernel
theorem dX4_growPaths_103 : decode cX4_growPaths 103 = .ok (.invokevirtual 137, 3) := by decide +kernel
theorem dX4_growPaths_106 : decode cX4_growPaths 106 = .ok (.iinc 1 1, 3) := by decide +kernel
theorem dX4_growPaths_109 : decode cX4_growPaths 109 = .ok (.goto (-27), 3) := by decide +kernel
theorem dX4_growPaths_112 : decode cX4_growPaths 112 = .ok (.aload_n 0, 1) := by decide +kernel
theorem dX4_growPaths_113 : decode cX4_growPaths 113 = .ok (.aload_n 0, 1) := by decide +kernel
theorem dX4_growPaths_114 : decode cX4_growPaths 114 = .ok (.getfield 39, 3) := by decide +kernel
theorem dX4_growPaths_117 : decode cX4_growPaths 117 = .ok (.putfield 28, 3) := by decide +kernel
theorem dX4_growPaths_120 : decode cX4_growPaths 120 = .ok (.aload_n 0, 1) := by decide +kernel
theorem dX4_growPaths_121 : decode cX4_growPaths 121 = .ok (.getfield 24, 3) := by decide +kernel
theorem dX4_growPaths_124 : decode cX4_growPaths 124 = .ok (.astore_n 1, 1) := by decide +kernel
theorem dX4_growPaths_125 : decode cX4_growPaths 125 = .ok (.aload_n 0, 1) := by decide +kernel
theorem dX4_growPaths_126 : decode cX4_growPaths 126 = .ok (.aload_n 0, 1) := by decide +kernel
theorem dX4_growPaths_127 : decode cX4_growPaths 127 = .ok (.getfield 32, 3) := by decide +kernel
theorem dX4_growPaths_130 : decode cX4_growPaths 130 = .ok (.putfield 24, 3) := by decide +kernel
theorem dX4_growPaths_133 : decode cX4_growPaths 133 = .ok (.aload_n 0, 1) := by decide +kernel
theorem dX4_growPaths_134 : decode cX4_growPaths 134 = .ok (.aload_n 1, 1) := by decide +kernel
theorem dX4_growPaths_135 : decode cX4_growPaths 135 = .ok (.putfield 32, 3) := by decide +kernel
theorem dX4_growPaths_138 : decode cX4_growPaths 138 = .ok (.return_, 1) := by decide +kernel
theorem dX4_offerPlainSteps_0 : decode cX4_offerPlainSteps 0 = .ok (.aload_n 1, 1) := by decide +kernel
theorem dX4_offerPlainSteps_1 : decode cX4_offerPlainSteps 1 = .ok (.getfield 96, 3) := by decide +kernel
theorem dX4_offerPlainSteps_4 : decode cX4_offerPlainSteps 4 = .ok (.invokevirtual 141, 3) := by decide +kernel
theorem dX4_offerPlainSteps_7 : decode cX4_offerPlainSteps 7 = .ok (.astore_n 2, 1) := by decide +kernel
theorem dX4_offerPlainSteps_8 : decode cX4_offerPlainSteps 8 = .ok (.aload_n 2, 1) := by decide +kernel
theorem dX4_offerPlainSteps_9 : decode cX4_offerPlainSteps 9 = .ok (.ifnonnull 4, 3) := by decide +kernel
theorem dX4_offerPlainSteps_12 : decode cX4_offerPlainSteps 12 = .ok (.return_, 1) := by decide +kernel
theorem dX4_offerPlainSteps_13 : decode cX4_offerPlainSteps 13 = .ok (.aload_n 1, 1) := by decide +kernel
theorem dX4_offerPlainSteps_14 : decode cX4_offerPlainSteps 14 = .ok (.getfield 96, 3) := by decide +kernel
theorem dX4_offerPlainSteps_17 : decode cX4_offerPlainSteps 17 = .ok (.invokevirtual 145, 3) := by decide +kernel
theorem dX4_offerPlainSteps_20 : decode cX4_offerPlainSteps 20 = .ok (.istore_n 3, 1) := by decide +kernel
theorem dX4_offerPlainSteps_21 : decode cX4_offerPlainSteps 21 = .ok (.aload_n 0, 1) := by decide +kernel
theorem dX4_offerPlainSteps_22 : decode cX4_offerPlainSteps 22 = .ok (.getfield 51, 3) := by decide +kernel
theorem dX4_offerPlainSteps_25 : decode cX4_offerPlainSteps 25 = .ok (.aload_n 1, 1) := by decide +kernel
theorem dX4_offerPlainSteps_26 : decode cX4_offerPlainSteps 26 = .ok (.getfield 121, 3) := by decide +kernel
theorem dX4_offerPlainSteps_29 : decode cX4_offerPlainSteps 29 = .ok (.aload_n 2, 1) := by decide +kernel
theorem dX4_offerPlainSteps_30 : decode cX4_offerPlainSteps 30 = .ok (.iload_n 3, 1) := by decide +kernel
theorem dX4_offerPlainSteps_31 : decode cX4_offerPlainSteps 31 = .ok (.invokevirtual 149, 3) := by decide +kernel
theorem dX4_offerPlainSteps_34 : decode cX4_offerPlainSteps 34 = .ok (.istore 4, 2) := by decide +kernel
theorem dX4_offerPlainSteps_36 : decode cX4_offerPlainSteps 36 = .ok (.aload_n 1, 1) := by decide +kernel
theorem dX4_offerPlainSteps_37 : decode cX4_offerPlainSteps 37 = .ok (.getfield 121, 3) := by decide +kernel
theorem dX4_offerPlainSteps_40 : decode cX4_offerPlainSteps 40 = .ok (.iload 4, 2) := by decide +kernel
theorem dX4_offerPlainSteps_42 : decode cX4_offerPlainSteps 42 = .ok (.iadd, 1) := by decide +kernel
theorem dX4_offerPlainSteps_43 : decode cX4_offerPlainSteps 43 = .ok (.istore 5, 2) := by decide +kernel
theorem dX4_offerPlainSteps_45 : decode cX4_offerPlainSteps 45 = .ok (.aload_n 1, 1) := by decide +kernel
theorem dX4_offerPlainSteps_46 : decode cX4_offerPlainSteps 46 = .ok (.getfield 118, 3) := by decide +kernel
theorem dX4_offerPlainSteps_49 : decode cX4_offerPlainSteps 49 = .ok (.aload_n 2, 1) := by decide +kernel
theorem dX4_offerPlainSteps_50 : decode cX4_offerPlainSteps 50 = .ok (.getfield 153, 3) := by decide +kernel
theorem dX4_offerPlainSteps_53 : decode cX4_offerPlainSteps 53 = .ok (.iadd, 1) := by decide +kernel
theorem dX4_offerPlainSteps_54 : decode cX4_offerPlainSteps 54 = .ok (.istore 6, 2) := by decide +kernel
theorem dX4_offerPlainSteps_56 : decode cX4_offerPlainSteps 56 = .ok (.iload 4, 2) := by decide +kernel
theorem dX4_offerPlainSteps_58 : decode cX4_offerPlainSteps 58 = .ok (.aload_n 2, 1) := by decide +kernel
theorem dX4_offerPlainSteps_59 : decode cX4_offerPlainSteps 59 = .ok (.getfield 156, 3) := by decide +kernel
theorem dX4_offerPlainSteps_62 : decode cX4_offerPlainSteps 62 = .ok (.arraylength, 1) := by decide +kernel
theorem dX4_offerPlainSteps_63 : decode cX4_offerPlainSteps 63 = .ok (.iload_n 3, 1) := by decide +kernel
theorem dX4_offerPlainSteps_64 : decode cX4_offerPlainSteps 64 = .ok (.isub, 1) := by decide +kernel
theorem dX4_offerPlainSteps_65 : decode cX4_offerPlainSteps 65 = .ok (.if_icmp .ge 4, 3) := by decide +kernel
theorem dX4_offerPlainSteps_68 : decode cX4_offerPlainSteps 68 = .ok (.return_, 1) := by decide +kernel
theorem dX4_offerPlainSteps_69 : decode cX4_offerPlainSteps 69 = .ok (.iload 5, 2) := by decide +kernel
theorem dX4_offerPlainSteps_71 : decode cX4_offerPlainSteps 71 = .ok (.aload_n 0, 1) := by decide +kernel
theorem dX4_offerPlainSteps_72 : decode cX4_offerPlainSteps 72 = .ok (.getfield 51, 3) := by decide +kernel
theorem dX4_offerPlainSteps_75 : decode cX4_offerPlainSteps 75 = .ok (.getfield 73, 3) := by decide +kernel
theorem dX4_offerPlainSteps_78 : decode cX4_offerPlainSteps 78 = .ok (.if_icmp .lt 16, 3) := by decide +kernel
theorem dX4_offerPlainSteps_81 : decode cX4_offerPlainSteps 81 = .ok (.aload_n 0, 1) := by decide +kernel
theorem dX4_offerPlainSteps_82 : decode cX4_offerPlainSteps 82 = .ok (.iload 6, 2) := by decide +kernel
theorem dX4_offerPlainSteps_84 : decode cX4_offerPlainSteps 84 = .ok (.aload_n 1, 1) := by decide +kernel
theorem dX4_offerPlainSteps_85 : decode cX4_offerPlainSteps 85 = .ok (.getfield 127, 3) := by decide +kernel
theorem dX4_offerPlainSteps_88 : decode cX4_offerPlainSteps 88 = .ok (.iconst 0, 1) := by decide +kernel
theorem dX4_offerPlainSteps_89 : decode cX4_offerPlainSteps 89 = .ok (.iconst 0, 1) := by decide +kernel
theorem dX4_offerPlainSteps_90 : decode cX4_offerPlainSteps 90 = .ok (.invokevirtual 92, 3) := by decide +kernel
theorem dX4_offerPlainSteps_93 : decode cX4_offerPlainSteps 93 = .ok (.return_, 1) := by decide +kernel
theorem dX4_offerPlainSteps_94 : decode cX4_offerPlainSteps 94 = .ok (.iconst 0, 1) := by decide +kernel
theorem dX4_offerPlainSteps_95 : decode cX4_offerPlainSteps 95 = .ok (.istore 7, 2) := by decide +kernel
theorem dX4_offerPlainSteps_97 : decode cX4_offerPlainSteps 97 = .ok (.iload 7, 2) := by decide +kernel
theorem dX4_offerPlainSteps_99 : decode cX4_offerPlainSteps 99 = .ok (.aload_n 0, 1) := by decide +kernel
theorem dX4_offerPlainSteps_100 : decode cX4_offerPlainSteps 100 = .ok (.getfield 42, 3) := by decide +kernel
theorem dX4_offerPlainSteps_103 : decode cX4_offerPlainSteps 103 = .ok (.getfield 85, 3) := by decide +kernel
theorem dX4_offerPlainSteps_106 : decode cX4_offerPlainSteps 106 = .ok (.if_icmp .ge 59, 3) := by decide +kernel
theorem dX4_offerPlainSteps_109 : decode cX4_offerPlainSteps 109 = .ok (.aload_n 0, 1) := by decide +kernel
theorem dX4_offerPlainSteps_110 : decode cX4_offerPlainSteps 110 = .ok (.getfield 51, 3) := by decide +kernel
theorem dX4_offerPlainSteps_113 : decode cX4_offerPlainSteps 113 = .ok (.aload_n 2, 1) := by decide +kernel
theorem dX4_offerPlainSteps_114 : decode cX4_offerPlainSteps 114 = .ok (.aload_n 0, 1) := by decide +kernel
theorem dX4_offerPlainSteps_115 : decode cX4_offerPlainSteps 115 = .ok (.getfield 42, 3) := by decide +kernel
theorem dX4_offerPlainSteps_118 : decode cX4_offerPlainSteps 118 = .ok (.getfield 160, 3) := by decide +kernel
theorem dX4_offerPlainSteps_121 : decode cX4_offerPlainSteps 121 = .ok (.iload 7, 2) := by decide +kernel
theorem dX4_offerPlainSteps_123 : decode cX4_offerPlainSteps 123 = .ok (.aaload, 1) := by decide +kernel
theorem dX4_offerPlainSteps_124 : decode cX4_offerPlainSteps 124 = .ok (.invokevirtual 164, 3) := by decide +kernel
theorem dX4_offerPlainSteps_127 : decode cX4_offerPlainSteps 127 = .ok (.ifCond .eq 32, 3) := by decide +kernel
theorem dX4_offerPlainSteps_130 : decode cX4_offerPlainSteps 130 = .ok (.aload_n 0, 1) := by decide +kernel
theorem dX4_offerPlainSteps_131 : decode cX4_offerPlainSteps 131 = .ok (.iload 6, 2) := by decide +kernel
theorem dX4_offerPlainSteps_133 : decode cX4_offerPlainSteps 133 = .ok (.aload_n 0, 1) := by decide +kernel
theorem dX4_offerPlainSteps_134 : decode cX4_offerPlainSteps 134 = .ok (.getfield 51, 3) := by decide +kernel
theorem dX4_offerPlainSteps_137 : decode cX4_offerPlainSteps 137 = .ok (.getfield 88, 3) := by decide +kernel
theorem dX4_offerPlainSteps_140 : decode cX4_offerPlainSteps 140 = .ok (.iload 5, 2) := by decide +kernel
theorem dX4_offerPlainSteps_142 : decode cX4_offerPlainSteps 142 = .ok (.aaload, 1) := by decide +kernel
theorem dX4_offerPlainSteps_143 : decode cX4_offerPlainSteps 143 = .ok (.iload 7, 2) := by decide +kernel
theorem dX4_offerPlainSteps_145 : decode cX4_offerPlainSteps 145 = .ok (.iconst 4, 1) := by decide +kernel
theorem dX4_offerPlainSteps_146 : decode cX4_offerPlainSteps 146 = .ok (.imul, 1) := by decide +kernel
theorem dX4_offerPlainSteps_147 : decode cX4_offerPlainSteps 147 = .ok (.iaload, 1) := by decide +kernel
theorem dX4_offerPlainSteps_148 : decode cX4_offerPlainSteps 148 = .ok (.iadd, 1) := by decide +kernel
theorem dX4_offerPlainSteps_149 : decode cX4_offerPlainSteps 149 = .ok (.aload_n 1, 1) := by decide +kernel
theorem dX4_offerPlainSteps_150 : decode cX4_offerPlainSteps 150 = .ok (.getfield 127, 3) := by decide +kernel
theorem dX4_offerPlainSteps_153 : decode cX4_offerPlainSteps 153 = .ok (.iconst 1, 1) := by decide +kernel
theorem dX4_offerPlainSteps_154 : decode cX4_offerPlainSteps 154 = .ok (.iload 7, 2) := by decide +kernel
theorem dX4_offerPlainSteps_156 : decode cX4_offerPlainSteps 156 = .ok (.invokevirtual 92, 3) := by decide +kernel
theorem dX4_offerPlainSteps_159 : decode cX4_offerPlainSteps 159 = .ok (.iinc 7 1, 3) := by decide +kernel
theorem dX4_offerPlainSteps_162 : decode cX4_offerPlainSteps 162 = .ok (.goto (-65), 3) := by decide +kernel
theorem dX4_offerPlainSteps_165 : decode cX4_offerPlainSteps 165 = .ok (.return_, 1) := by decide +kernel
theorem dX4_offerRuledSteps_0 : decode cX4_offerRuledSteps 0 = .ok (.aload_n 1, 1) := by decide +kernel
theorem dX4_offerRuledSteps_1 : decode cX4_offerRuledSteps 1 = .ok (.getfield 96, 3) := by decide +kernel
theorem dX4_offerRuledSteps_4 : decode cX4_offerRuledSteps 4 = .ok (.invokevirtual 141, 3) := by decide +kernel
theorem dX4_offerRuledSteps_7 : decode cX4_offerRuledSteps 7 = .ok (.astore_n 2, 1) := by decide +kernel
theorem dX4_offerRuledSteps_8 : decode cX4_offerRuledSteps 8 = .ok (.aload_n 2, 1) := by decide +kernel
theorem dX4_offerRuledSteps_9 : decode cX4_offerRuledSteps 9 = .ok (.ifnonnull 4, 3) := by decide +kernel
theorem dX4_offerRuledSteps_12 : decode cX4_offerRuledSteps 12 = .ok (.return_, 1) := by decide +kernel
theorem dX4_offerRuledSteps_13 : decode cX4_offerRuledSteps 13 = .ok (.aload_n 1, 1) := by decide +kernel
theorem dX4_offerRuledSteps_14 : decode cX4_offerRuledSteps 14 = .ok (.getfield 96, 3) := by decide +kernel
theorem dX4_offerRuledSteps_17 : decode cX4_offerRuledSteps 17 = .ok (.invokevirtual 145, 3) := by decide +kernel
theorem dX4_offerRuledSteps_20 : decode cX4_offerRuledSteps 20 = .ok (.istore_n 3, 1) := by decide +kernel
theorem dX4_offerRuledSteps_21 : decode cX4_offerRuledSteps 21 = .ok (.aload_n 0, 1) := by decide +kernel
theorem dX4_offerRuledSteps_22 : decode cX4_offerRuledSteps 22 = .ok (.getfield 51, 3) := by decide +kernel
theorem dX4_offerRuledSteps_25 : decode cX4_offerRuledSteps 25 = .ok (.aload_n 1, 1) := by decide +kernel
theorem dX4_offerRuledSteps_26 : decode cX4_offerRuledSteps 26 = .ok (.getfield 121, 3) := by decide +kernel
theorem dX4_offerRuledSteps_29 : decode cX4_offerRuledSteps 29 = .ok (.aload_n 2, 1) := by decide +kernel
theorem dX4_offerRuledSteps_30 : decode cX4_offerRuledSteps 30 = .ok (.iload_n 3, 1) := by decide +kernel
theorem dX4_offerRuledSteps_31 : decode cX4_offerRuledSteps 31 = .ok (.invokevirtual 149, 3) := by decide +kernel
theorem dX4_offerRuledSteps_34 : decode cX4_offerRuledSteps 34 = .ok (.istore 4, 2) := by decide +kernel
theorem dX4_offerRuledSteps_36 : decode cX4_offerRuledSteps 36 = .ok (.iconst 0, 1) := by decide +kernel
theorem dX4_offerRuledSteps_37 : decode cX4_offerRuledSteps 37 = .ok (.istore 5, 2) := by decide +kernel
theorem dX4_offerRuledSteps_39 : decode cX4_offerRuledSteps 39 = .ok (.iload 5, 2) := by decide +kernel
theorem dX4_offerRuledSteps_41 : decode cX4_offerRuledSteps 41 = .ok (.aload_n 0, 1) := by decide +kernel
theorem dX4_offerRuledSteps_42 : decode cX4_offerRuledSteps 42 = .ok (.getfield 42, 3) := by decide +kernel
theorem dX4_offerRuledSteps_45 : decode cX4_offerRuledSteps 45 = .ok (.getfield 168, 3) := by decide +kernel
theorem dX4_offerRuledSteps_48 : decode cX4_offerRuledSteps 48 = .ok (.if_icmp .ge 72, 3) := by decide +kernel
theorem dX4_offerRuledSteps_51 : decode cX4_offerRuledSteps 51 = .ok (.aload_n 2, 1) := by decide +kernel
theorem dX4_offerRuledSteps_52 : decode cX4_offerRuledSteps 52 = .ok (.getfield 171, 3) := by decide +kernel
theorem dX4_offerRuledSteps_55 : decode cX4_offerRuledSteps 55 = .ok (.iload 5, 2) := by decide +kernel
theorem dX4_offerRuledSteps_57 : decode cX4_offerRuledSteps 57 = .ok (.invokestatic 174, 3) := by decide +kernel
theorem dX4_offerRuledSteps_60 : decode cX4_offerRuledSteps 60 = .ok (.ifCond .ne 6, 3) := by decide +kernel
theorem dX4_offerRuledSteps_63 : decode cX4_offerRuledSteps 63 = .ok (.goto 51, 3) := by decide +kernel
theorem dX4_offerRuledSteps_66 : decode cX4_offerRuledSteps 66 = .ok (.aload_n 0, 1) := by decide +kernel
theorem dX4_offerRuledSteps_67 : decode cX4_offerRuledSteps 67 = .ok (.getfield 51, 3) := by decide +kernel
theorem dX4_offerRuledSteps_70 : decode cX4_offerRuledSteps 70 = .ok (.aload_n 1, 1) := by decide +kernel
theorem dX4_offerRuledSteps_71 : decode cX4_offerRuledSteps 71 = .ok (.getfield 121, 3) := by decide +kernel
theorem dX4_offerRuledSteps_74 : decode cX4_offerRuledSteps 74 = .ok (.aload_n 2, 1) := by decide +kernel
theorem dX4_offerRuledSteps_75 : decode cX4_offerRuledSteps 75 = .ok (.getfield 156, 3) := by decide +kernel
theorem dX4_offerRuledSteps_78 : decode cX4_offerRuledSteps 78 = .ok (.arraylength, 1) := by decide +kernel
theorem dX4_offerRuledSteps_79 : decode cX4_offerRuledSteps 79 = .ok (.iload_n 3, 1) := by decide +kernel
theorem dX4_offerRuledSteps_80 : decode cX4_offerRuledSteps 80 = .ok (.isub, 1) := by decide +kernel
theorem dX4_offerRuledSteps_81 : decode cX4_offerRuledSteps 81 = .ok (.iload 4, 2) := by decide +kernel
theorem dX4_offerRuledSteps_83 : decode cX4_offerRuledSteps 83 = .ok (.aload_n 0, 1) := by decide +kernel
theorem dX4_offerRuledSteps_84 : decode cX4_offerRuledSteps 84 = .ok (.getfield 42, 3) := by decide +kernel
theorem dX4_offerRuledSteps_87 : decode cX4_offerRuledSteps 87 = .ok (.getfield 178, 3) := by decide +kernel
theorem dX4_offerRuledSteps_90 : decode cX4_offerRuledSteps 90 = .ok (.iload 5, 2) := by decide +kernel
theorem dX4_offerRuledSteps_92 : decode cX4_offerRuledSteps 92 = .ok (.aaload, 1) := by decide +kernel
theorem dX4_offerRuledSteps_93 : decode cX4_offerRuledSteps 93 = .ok (.invokevirtual 182, 3) := by decide +kernel
theorem dX4_offerRuledSteps_96 : decode cX4_offerRuledSteps 96 = .ok (.istore 6, 2) := by decide +kernel
theorem dX4_offerRuledSteps_98 : decode cX4_offerRuledSteps 98 = .ok (.iload 6, 2) := by decide +kernel
theorem dX4_offerRuledSteps_100 : decode cX4_offerRuledSteps 100 = .ok (.iconst (-1), 1) := by decide +kernel
theorem dX4_offerRuledSteps_101 : decode cX4_offerRuledSteps 101 = .ok (.if_icmp .eq 13, 3) := by decide +kernel
theorem dX4_offerRuledSteps_104 : decode cX4_offerRuledSteps 104 = .ok (.aload_n 0, 1) := by decide +kernel
theorem dX4_offerRuledSteps_105 : decode cX4_offerRuledSteps 105 = .ok (.aload_n 1, 1) := by decide +kernel
theorem dX4_offerRuledSteps_106 : decode cX4_offerRuledSteps 106 = .ok (.aload_n 2, 1) := by decide +kernel
theorem dX4_offerRuledSteps_107 : decode cX4_offerRuledSteps 107 = .ok (.iload 5, 2) := by decide +kernel
theorem dX4_offerRuledSteps_109 : decode cX4_offerRuledSteps 109 = .ok (.iload 6, 2) := by decide +kernel
theorem dX4_offerRuledSteps_111 : decode cX4_offerRuledSteps 111 = .ok (.invokevirtual 186, 3) := by decide +kernel
theorem dX4_offerRuledSteps_114 : decode cX4_offerRuledSteps 114 = .ok (.iinc 5 1, 3) := by decide +kernel
theorem dX4_offerRuledSteps_117 : decode cX4_offerRuledSteps 117 = .ok (.goto (-78), 3) := by decide +kernel
theorem dX4_offerRuledSteps_120 : decode cX4_offerRuledSteps 120 = .ok (.return_, 1) := by decide +kernel
theorem dX4_offerStepsBehind_0 : decode cX4_offerStepsBehind 0 = .ok (.aload_n 0, 1) := by decide +kernel
theorem dX4_offerStepsBehind_1 : decode cX4_offerStepsBehind 1 = .ok (.getfield 42, 3) := by decide +kernel
theorem dX4_offerStepsBehind_4 : decode cX4_offerStepsBehind 4 = .ok (.getfield 178, 3) := by decide +kernel
theorem dX4_offerStepsBehind_7 : decode cX4_offerStepsBehind 7 = .ok (.iload_n 3, 1) := by decide +kernel
theorem dX4_offerStepsBehind_8 : decode cX4_offerStepsBehind 8 = .ok (.aaload, 1) := by decide +kernel
theorem dX4_offerStepsBehind_9 : decode cX4_offerStepsBehind 9 = .ok (.astore 5, 2) := by decide +kernel
theorem dX4_offerStepsBehind_11 : decode cX4_offerStepsBehind 11 = .ok (.aload_n 1, 1) := by decide +kernel
theorem dX4_offerStepsBehind_12 : decode cX4_offerStepsBehind 12 = .ok (.getfield 118, 3) := by decide +kernel
theorem dX4_offerStepsBehind_15 : decode cX4_offerStepsBehind 15 = .ok (.aload_n 2, 1) := by decide +kernel
theorem dX4_offerStepsBehind_16 : decode cX4_offerStepsBehind 16 = .ok (.getfield 153, 3) := by decide +kernel
theorem dX4_offerStepsBehind_19 : decode cX4_offerStepsBehind 19 = .ok (.iadd, 1) := by decide +kernel
theorem dX4_offerStepsBehind_20 : decode cX4_offerStepsBehind 20 = .ok (.aload 5, 2) := by decide +kernel
theorem dX4_offerStepsBehind_22 : decode cX4_offerStepsBehind 22 = .ok (.getfield 190, 3) := by decide +kernel
theorem dX4_offerStepsBehind_25 : decode cX4_offerStepsBehind 25 = .ok (.iadd, 1) := by decide +kernel
theorem dX4_offerStepsBehind_26 : decode cX4_offerStepsBehind 26 = .ok (.istore 6, 2) := by decide +kernel
theorem dX4_offerStepsBehind_28 : decode cX4_offerStepsBehind 28 = .ok (.iconst 0, 1) := by decide +kernel
theorem dX4_offerStepsBehind_29 : decode cX4_offerStepsBehind 29 = .ok (.istore 7, 2) := by decide +kernel
theorem dX4_offerStepsBehind_31 : decode cX4_offerStepsBehind 31 = .ok (.iload 7, 2) := by decide +kernel
theorem dX4_offerStepsBehind_33 : decode cX4_offerStepsBehind 33 = .ok (.aload_n 0, 1) := by decide +kernel
theorem dX4_offerStepsBehind_34 : decode cX4_offerStepsBehind 34 = .ok (.getfield 42, 3) := by decide +kernel
theorem dX4_offerStepsBehind_37 : decode cX4_offerStepsBehind 37 = .ok (.getfield 85, 3) := by decide +kernel
theorem dX4_offerStepsBehind_40 : decode cX4_offerStepsBehind 40 = .ok (.if_icmp .ge 72, 3) := by decide +kernel
theorem dX4_offerStepsBehind_43 : decode cX4_offerStepsBehind 43 = .ok (.aload_n 0, 1) := by decide +kernel
theorem dX4_offerStepsBehind_44 : decode cX4_offerStepsBehind 44 = .ok (.getfield 51, 3) := by decide +kernel
theorem dX4_offerStepsBehind_47 : decode cX4_offerStepsBehind 47 = .ok (.iload_n 3, 1) := by decide +kernel
theorem dX4_offerStepsBehind_48 : decode cX4_offerStepsBehind 48 = .ok (.aload_n 2, 1) := by decide +kernel
theorem dX4_offerStepsBehind_49 : decode cX4_offerStepsBehind 49 = .ok (.aload_n 0, 1) := by decide +kernel
theorem dX4_offerStepsBehind_50 : decode cX4_offerStepsBehind 50 = .ok (.getfield 42, 3) := by decide +kernel
theorem dX4_offerStepsBehind_53 : decode cX4_offerStepsBehind 53 = .ok (.getfield 160, 3) := by decide +kernel
theorem dX4_offerStepsBehind_56 : decode cX4_offerStepsBehind 56 = .ok (.iload 7, 2) := by decide +kernel
theorem dX4_offerStepsBehind_58 : decode cX4_offerStepsBehind 58 = .ok (.aaload, 1) := by decide +kernel
theorem dX4_offerStepsBehind_59 : decode cX4_offerStepsBehind 59 = .ok (.invokevirtual 193, 3) := by decide +kernel
theorem dX4_offerStepsBehind_62 : decode cX4_offerStepsBehind 62 = .ok (.ifCond .eq 44, 3) := by decide +kernel
theorem dX4_offerStepsBehind_65 : decode cX4_offerStepsBehind 65 = .ok (.aload_n 0, 1) := by decide +kernel
theorem dX4_offerStepsBehind_66 : decode cX4_offerStepsBehind 66 = .ok (.getfield 51, 3) := by decide +kernel
theorem dX4_offerStepsBehind_69 : decode cX4_offerStepsBehind 69 = .ok (.getfield 88, 3) := by decide +kernel
theorem dX4_offerStepsBehind_72 : decode cX4_offerStepsBehind 72 = .ok (.iload 4, 2) := by decide +kernel
theorem dX4_offerStepsBehind_74 : decode cX4_offerStepsBehind 74 = .ok (.aaload, 1) := by decide +kernel
theorem dX4_offerStepsBehind_75 : decode cX4_offerStepsBehind 75 = .ok (.iload 7, 2) := by decide +kernel
theorem dX4_offerStepsBehind_77 : decode cX4_offerStepsBehind 77 = .ok (.iconst 4, 1) := by decide +kernel
theorem dX4_offerStepsBehind_78 : decode cX4_offerStepsBehind 78 = .ok (.imul, 1) := by decide +kernel
theorem dX4_offerStepsBehind_79 : decode cX4_offerStepsBehind 79 = .ok (.aload 5, 2) := by decide +kernel
theorem dX4_offerStepsBehind_81 : decode cX4_offerStepsBehind 81 = .ok (.getfield 197, 3) := by decide +kernel
theorem dX4_offerStepsBehind_84 : decode cX4_offerStepsBehind 84 = .ok (.iadd, 1) := by decide +kernel
theorem dX4_offerStepsBehind_85 : decode cX4_offerStepsBehind 85 = .ok (.iaload, 1) := by decide +kernel
theorem dX4_offerStepsBehind_86 : decode cX4_offerStepsBehind 86 = .ok (.istore 8, 2) := by decide +kernel
theorem dX4_offerStepsBehind_88 : decode cX4_offerStepsBehind 88 = .ok (.aload_n 0, 1) := by decide +kernel
theorem dX4_offerStepsBehind_89 : decode cX4_offerStepsBehind 89 = .ok (.iload 6, 2) := by decide +kernel
theorem dX4_offerStepsBehind_91 : decode cX4_offerStepsBehind 91 = .ok (.iload 8, 2) := by decide +kernel
theorem dX4_offerStepsBehind_93 : decode cX4_offerStepsBehind 93 = .ok (.iadd, 1) := by decide +kernel
theorem dX4_offerStepsBehind_94 : decode cX4_offerStepsBehind 94 = .ok (.aload_n 1, 1) := by decide +kernel
theorem dX4_offerStepsBehind_95 : decode cX4_offerStepsBehind 95 = .ok (.getfield 127, 3) := by decide +kernel
theorem dX4_offerStepsBehind_98 : decode cX4_offerStepsBehind 98 = .ok (.iconst 2, 1) := by decide +kernel
theorem dX4_offerStepsBehind_99 : decode cX4_offerStepsBehind 99 = .ok (.iload_n 3, 1) := by decide +kernel
theorem dX4_offerStepsBehind_100 : decode cX4_offerStepsBehind 100 = .ok (.iadd, 1) := by decide +kernel
theorem dX4_offerStepsBehind_101 : decode cX4_offerStepsBehind 101 = .ok (.iload 7, 2) := by decide +kernel
theorem dX4_offerStepsBehind_103 : decode cX4_offerStepsBehind 103 = .ok (.invokevirtual 92, 3) := by decide +kernel
theorem dX4_offerStepsBehind_106 : decode cX4_offerStepsBehind 106 = .ok (.iinc 7 1, 3) := by decide +kernel
theorem dX4_offerStepsBehind_109 : decode cX4_offerStepsBehind 109 = .ok (.goto (-78), 3) := by decide +kernel
theorem dX4_offerStepsBehind_112 : decode cX4_offerStepsBehind 112 = .ok (.return_, 1) := by decide +kernel
theorem dX4_offer_0 : decode cX4_offer 0 = .ok (.iload_n 1, 1) := by decide +kernel
theorem dX4_offer_1 : decode cX4_offer 1 = .ok (.ldc 200, 2) := by decide +kernel
theorem dX4_offer_3 : decode cX4_offer 3 = .ok (.if_icmp .lt 4, 3) := by decide +kernel
theorem dX4_offer_6 : decode cX4_offer 6 = .ok (.return_, 1) := by decide +kernel
theorem dX4_offer_7 : decode cX4_offer 7 = .ok (.iload_n 1, 1) := by decide +kernel
theorem dX4_offer_8 : decode cX4_offer 8 = .ok (.iconst 3, 1) := by decide +kernel
theorem dX4_offer_9 : decode cX4_offer 9 = .ok (.ishl, 1) := by decide +kernel
theorem dX4_offer_10 : decode cX4_offer 10 = .ok (.iload_n 2, 1) := by decide +kernel
theorem dX4_offer_11 : decode cX4_offer 11 = .ok (.ior, 1) := by decide +kernel
theorem dX4_offer_12 : decode cX4_offer 12 = .ok (.iconst 5, 1) := by decide +kernel
theorem dX4_offer_13 : decode cX4_offer 13 = .ok (.ishl, 1) := by decide +kernel
theorem dX4_offer_14 : decode cX4_offer 14 = .ok (.iload_n 3, 1) := by decide +kernel
theorem dX4_offer_15 : decode cX4_offer 15 = .ok (.ior, 1) := by decide +kernel
theorem dX4_offer_16 : decode cX4_offer 16 = .ok (.bipush 6, 2) := by decide +kernel
theorem dX4_offer_18 : decode cX4_offer 18 = .ok (.ishl, 1) := by decide +kernel
theorem dX4_offer_19 : decode cX4_offer 19 = .ok (.iload 4, 2) := by decide +kernel
theorem dX4_offer_21 : decode cX4_offer 21 = .ok (.ior, 1) := by decide +kernel
theorem dX4_offer_22 : decode cX4_offer 22 = .ok (.istore 5, 2) := by decide +kernel
theorem dX4_offer_24 : decode cX4_offer 24 = .ok (.aload_n 0, 1) := by decide +kernel
theorem dX4_offer_25 : decode cX4_offer 25 = .ok (.getfield 39, 3) := by decide +kernel
theorem dX4_offer_28 : decode cX4_offer 28 = .ok (.istore 6, 2) := by decide +kernel
theorem dX4_offer_30 : decode cX4_offer 30 = .ok (.aload_n 0, 1) := by decide +kernel
theorem dX4_offer_31 : decode cX4_offer 31 = .ok (.getfield 39, 3) := by decide +kernel
theorem dX4_offer_34 : decode cX4_offer 34 = .ok (.bipush 8, 2) := by decide +kernel
theorem dX4_offer_36 : decode cX4_offer 36 = .ok (.if_icmp .ge 16, 3) := by decide +kernel
theorem dX4_offer_39 : decode cX4_offer 39 = .ok (.aload_n 0, 1) := by decide +kernel
theorem dX4_offer_40 : decode cX4_offer 40 = .ok (.dup, 1) := by decide +kernel
theorem dX4_offer_41 : decode cX4_offer 41 = .ok (.getfield 39, 3) := by decide +kernel
theorem dX4_offer_44 : decode cX4_offer 44 = .ok (.iconst 1, 1) := by decide +kernel
theorem dX4_offer_45 : decode cX4_offer 45 = .ok (.iadd, 1) := by decide +kernel
theorem dX4_offer_46 : decode cX4_offer 46 = .ok (.putfield 39, 3) := by decide +kernel
theorem dX4_offer_49 : decode cX4_offer 49 = .ok (.goto 23, 3) := by decide +kernel
theorem dX4_offer_52 : decode cX4_offer 52 = .ok (.aload_n 0, 1) := by decide +kernel
theorem dX4_offer_53 : decode cX4_offer 53 = .ok (.getfield 35, 3) := by decide +kernel
theorem dX4_offer_56 : decode cX4_offer 56 = .ok (.bipush 7, 2) := by decide +kernel
theorem dX4_offer_58 : decode cX4_offer 58 = .ok (.iaload, 1) := by decide +kernel
theorem dX4_offer_59 : decode cX4_offer 59 = .ok (.iload 5, 2) := by decide +kernel
theorem dX4_offer_61 : decode cX4_offer 61 = .ok (.if_icmp .le 10, 3) := by decide +kernel
theorem dX4_offer_64 : decode cX4_offer 64 = .ok (.bipush 7, 2) := by decide +kernel
theorem dX4_offer_66 : decode cX4_offer 66 = .ok (.istore 6, 2) := by decide +kernel
theorem dX4_offer_68 : decode cX4_offer 68 = .ok (.goto 4, 3) := by decide +kernel
theorem dX4_offer_71 : decode cX4_offer 71 = .ok (.return_, 1) := by decide +kernel
theorem dX4_offer_72 : decode cX4_offer 72 = .ok (.iload 6, 2) := by decide +kernel
theorem dX4_offer_74 : decode cX4_offer 74 = .ok (.ifCond .le 39, 3) := by decide +kernel
theorem dX4_offer_77 : decode cX4_offer 77 = .ok (.aload_n 0, 1) := by decide +kernel
theorem dX4_offer_78 : decode cX4_offer 78 = .ok (.getfield 35, 3) := by decide +kernel
theorem dX4_offer_81 : decode cX4_offer 81 = .ok (.iload 6, 2) := by decide +kernel
theorem dX4_offer_83 : decode cX4_offer 83 = .ok (.iconst 1, 1) := by decide +kernel
theorem dX4_offer_84 : decode cX4_offer 84 = .ok (.isub, 1) := by decide +kernel
theorem dX4_offer_85 : decode cX4_offer 85 = .ok (.iaload, 1) := by decide +kernel
theorem dX4_offer_86 : decode cX4_offer 86 = .ok (.iload 5, 2) := by decide +kernel
theorem dX4_offer_88 : decode cX4_offer 88 = .ok (.if_icmp .le 25, 3) := by decide +kernel
theorem dX4_offer_91 : decode cX4_offer 91 = .ok (.aload_n 0, 1) := by decide +kernel
theorem dX4_offer_92 : decode cX4_offer 92 = .ok (.getfield 35, 3) := by decide +kernel
theorem dX4_offer_95 : decode cX4_offer 95 = .ok (.iload 6, 2) := by decide +kernel
theorem dX4_offer_97 : decode cX4_offer 97 = .ok (.aload_n 0, 1) := by decide +kernel
theorem dX4_offer_98 : decode cX4_offer 98 = .ok (.getfield 35, 3) := by decide +kernel
theorem dX4_offer_101 : decode cX4_offer 101 = .ok (.iload 6, 2) := by decide +kernel
theorem dX4_offer_103 : decode cX4_offer 103 = .ok (.iconst 1, 1) := by decide +kernel
theorem dX4_offer_104 : decode cX4_offer 104 = .ok (.isub, 1) := by decide +kernel
theorem dX4_offer_105 : decode cX4_offer 105 = .ok (.iaload, 1) := by decide +kernel
theorem dX4_offer_106 : decode cX4_offer 106 = .ok (.iastore, 1) := by decide +kernel
theorem dX4_offer_107 : decode cX4_offer 107 = .ok (.iinc 6 (-1), 3) := by decide +kernel
theorem dX4_offer_110 : decode cX4_offer 110 = .ok (.goto (-38), 3) := by decide +kernel
theorem dX4_offer_113 : decode cX4_offer 113 = .ok (.aload_n 0, 1) := by decide +kernel
theorem dX4_offer_114 : decode cX4_offer 114 = .ok (.getfield 35, 3) := by decide +kernel
theorem dX4_offer_117 : decode cX4_offer 117 = .ok (.iload 6, 2) := by decide +kernel
theorem dX4_offer_119 : decode cX4_offer 119 = .ok (.iload 5, 2) := by decide +kernel
theorem dX4_offer_121 : decode cX4_offer 121 = .ok (.iastore, 1) := by decide +kernel
theorem dX4_offer_122 : decode cX4_offer 122 = .ok (.return_, 1) := by decide +kernel
theorem dX4_grow_0 : decode cX4_grow 0 = .ok (.aload_n 0, 1) := by decide +kernel
theorem dX4_grow_1 : decode cX4_grow 1 = .ok (.iload_n 2, 1) := by decide +kernel
theorem dX4_grow_2 : decode cX4_grow 2 = .ok (.bipush 11, 2) := by decide +kernel
theorem dX4_grow_4 : decode cX4_grow 4 = .ok (.ishr, 1) := by decide +kernel
theorem dX4_grow_5 : decode cX4_grow 5 = .ok (.bipush 7, 2) := by decide +kernel
theorem dX4_grow_7 : decode cX4_grow 7 = .ok (.iand, 1) := by decide +kernel
theorem dX4_grow_8 : decode cX4_grow 8 = .ok (.invokevirtual 201, 3) := by decide +kernel
theorem dX4_grow_11 : decode cX4_grow 11 = .ok (.astore_n 3, 1) := by decide +kernel
theorem dX4_grow_12 : decode cX4_grow 12 = .ok (.aload_n 3, 1) := by decide +kernel
theorem dX4_grow_13 : decode cX4_grow 13 = .ok (.getfield 96, 3) := by decide +kernel
theorem dX4_grow_16 : decode cX4_grow 16 = .ok (.invokevirtual 141, 3) := by decide +kernel
theorem dX4_grow_19 : decode cX4_grow 19 = .ok (.astore 4, 2) := by decide +kernel
theorem dX4_grow_21 : decode cX4_grow 21 = .ok (.aload_n 0, 1) := by decide +kernel
theorem dX4_grow_22 : decode cX4_grow 22 = .ok (.getfield 42, 3) := by decide +kernel
theorem dX4_grow_25 : decode cX4_grow 25 = .ok (.iload_n 2, 1) := by decide +kernel
theorem dX4_grow_26 : decode cX4_grow 26 = .ok (.invokestatic 103, 3) := by decide +kernel
theorem dX4_grow_29 : decode cX4_grow 29 = .ok (.invokevirtual 107, 3) := by decide +kernel
theorem dX4_grow_32 : decode cX4_grow 32 = .ok (.astore 5, 2) := by decide +kernel
theorem dX4_grow_34 : decode cX4_grow 34 = .ok (.iload_n 2, 1) := by decide +kernel
theorem dX4_grow_35 : decode cX4_grow 35 = .ok (.bipush 6, 2) := by decide +kernel
theorem dX4_grow_37 : decode cX4_grow 37 = .ok (.ishr, 1) := by decide +kernel
theorem dX4_grow_38 : decode cX4_grow 38 = .ok (.bipush 31, 2) := by decide +kernel
theorem dX4_grow_40 : decode cX4_grow 40 = .ok (.iand, 1) := by decide +kernel
theorem dX4_grow_41 : decode cX4_grow 41 = .ok (.istore 6, 2) := by decide +kernel
theorem dX4_grow_43 : decode cX4_grow 43 = .ok (.aload_n 1, 1) := by decide +kernel
theorem dX4_grow_44 : decode cX4_grow 44 = .ok (.getfield 96, 3) := by decide +kernel
theorem dX4_grow_47 : decode cX4_grow 47 = .ok (.aload_n 3, 1) := by decide +kernel
theorem dX4_grow_48 : decode cX4_grow 48 = .ok (.getfield 96, 3) := by decide +kernel
theorem dX4_grow_51 : decode cX4_grow 51 = .ok (.invokevirtual 205, 3) := by decide +kernel
theorem dX4_grow_54 : decode cX4_grow 54 = .ok (.aload_n 1, 1) := by decide +kernel
theorem dX4_grow_55 : decode cX4_grow 55 = .ok (.iload_n 2, 1) := by decide +kernel
theorem dX4_grow_56 : decode cX4_grow 56 = .ok (.bipush 14, 2) := by decide +kernel
theorem dX4_grow_58 : decode cX4_grow 58 = .ok (.ishr, 1) := by decide +kernel
theorem dX4_grow_59 : decode cX4_grow 59 = .ok (.putfield 115, 3) := by decide +kernel
theorem dX4_grow_62 : decode cX4_grow 62 = .ok (.aload_n 1, 1) := by decide +kernel
theorem dX4_grow_63 : decode cX4_grow 63 = .ok (.aload_n 0, 1) := by decide +kernel
theorem dX4_grow_64 : decode cX4_grow 64 = .ok (.iload_n 2, 1) := by decide +kernel
theorem dX4_grow_65 : decode cX4_grow 65 = .ok (.invokevirtual 124, 3) := by decide +kernel
theorem dX4_grow_68 : decode cX4_grow 68 = .ok (.putfield 127, 3) := by decide +kernel
theorem dX4_grow_71 : decode cX4_grow 71 = .ok (.aload_n 1, 1) := by decide +kernel
theorem dX4_grow_72 : decode cX4_grow 72 = .ok (.aload_n 3, 1) := by decide +kernel
theorem dX4_grow_73 : decode cX4_grow 73 = .ok (.getfield 118, 3) := by decide +kernel
theorem dX4_grow_76 : decode cX4_grow 76 = .ok (.putfield 118, 3) := by decide +kernel
theorem dX4_grow_79 : decode cX4_grow 79 = .ok (.aload_n 1, 1) := by decide +kernel
theorem dX4_grow_80 : decode cX4_grow 80 = .ok (.aload_n 3, 1) := by decide +kernel
theorem dX4_grow_81 : decode cX4_grow 81 = .ok (.getfield 121, 3) := by decide +kernel
theorem dX4_grow_84 : decode cX4_grow 84 = .ok (.putfield 121, 3) := by decide +kernel
theorem dX4_grow_87 : decode cX4_grow 87 = .ok (.aload_n 1, 1) := by decide +kernel
theorem dX4_grow_88 : decode cX4_grow 88 = .ok (.iload 6, 2) := by decide +kernel
theorem dX4_grow_90 : decode cX4_grow 90 = .ok (.ifCond .ne 7, 3) := by decide +kernel
theorem dX4_grow_93 : decode cX4_grow 93 = .ok (.iconst 1, 1) := by decide +kernel
theorem dX4_grow_94 : decode cX4_grow 94 = .ok (.goto 4, 3) := by decide +kernel
theorem dX4_grow_97 : decode cX4_grow 97 = .ok (.iconst 0, 1) := by decide +kernel
theorem dX4_grow_98 : decode cX4_grow 98 = .ok (.putfield 82, 3) := by decide +kernel
theorem dX4_grow_101 : decode cX4_grow 101 = .ok (.aload_n 1, 1) := by decide +kernel
theorem dX4_grow_102 : decode cX4_grow 102 = .ok (.getfield 82, 3) := by decide +kernel
theorem dX4_grow_105 : decode cX4_grow 105 = .ok (.ifCond .ne 13, 3) := by decide +kernel
theorem dX4_grow_108 : decode cX4_grow 108 = .ok (.aload 4, 2) := by decide +kernel
theorem dX4_grow_110 : decode cX4_grow 110 = .ok (.ifnull 8, 3) := by decide +kernel
theorem dX4_grow_113 : decode cX4_grow 113 = .ok (.aload 5, 2) := by decide +kernel
theorem dX4_grow_115 : decode cX4_grow 115 = .ok (.ifnonnull 4, 3) := by decide +kernel
theorem dX4_grow_118 : decode cX4_grow 118 = .ok (.return_, 1) := by decide +kernel
theorem dX4_grow_119 : decode cX4_grow 119 = .ok (.aload_n 0, 1) := by decide +kernel
theorem dX4_grow_120 : decode cX4_grow 120 = .ok (.getfield 42, 3) := by decide +kernel
theorem dX4_grow_123 : decode cX4_grow 123 = .ok (.iload 6, 2) := by decide +kernel
theorem dX4_grow_125 : decode cX4_grow 125 = .ok (.iconst 2, 1) := by decide +kernel
theorem dX4_grow_126 : decode cX4_grow 126 = .ok (.isub, 1) := by decide +kernel
theorem dX4_grow_127 : decode cX4_grow 127 = .ok (.invokevirtual 209, 3) := by decide +kernel
theorem dX4_grow_130 : decode cX4_grow 130 = .ok (.astore 7, 2) := by decide +kernel
theorem dX4_grow_132 : decode cX4_grow 132 = .ok (.aload_n 1, 1) := by decide +kernel
theorem dX4_grow_133 : decode cX4_grow 133 = .ok (.dup, 1) := by decide +kernel
theorem dX4_grow_134 : decode cX4_grow 134 = .ok (.getfield 118, 3) := by decide +kernel
theorem dX4_grow_137 : decode cX4_grow 137 = .ok (.aload 4, 2) := by decide +kernel
theorem dX4_grow_139 : decode cX4_grow 139 = .ok (.getfield 153, 3) := by decide +kernel
theorem dX4_grow_142 : decode cX4_grow 142 = .ok (.iadd, 1) := by decide +kernel
theorem dX4_grow_143 : decode cX4_grow 143 = .ok (.putfield 118, 3) := by decide +kernel
theorem dX4_grow_146 : decode cX4_grow 146 = .ok (.aload_n 1, 1) := by decide +kernel
theorem dX4_grow_147 : decode cX4_grow 147 = .ok (.dup, 1) := by decide +kernel
theorem dX4_grow_148 : decode cX4_grow 148 = .ok (.getfield 121, 3) := by decide +kernel
theorem dX4_grow_151 : decode cX4_grow 151 = .ok (.aload 4, 2) := by decide +kernel
theorem dX4_grow_153 : decode cX4_grow 153 = .ok (.getfield 156, 3) := by decide +kernel
theorem dX4_grow_156 : decode cX4_grow 156 = .ok (.arraylength, 1) := by decide +kernel
theorem dX4_grow_157 : decode cX4_grow 157 = .ok (.aload_n 3, 1) := by decide +kernel
theorem dX4_grow_158 : decode cX4_grow 158 = .ok (.getfield 96, 3) := by decide +kernel
theorem dX4_grow_161 : decode cX4_grow 161 = .ok (.invokevirtual 145, 3) := by decide +kernel
theorem dX4_grow_164 : decode cX4_grow 164 = .ok (.isub, 1) := by decide +kernel
theorem dX4_grow_165 : decode cX4_grow 165 = .ok (.iadd, 1) := by decide +kernel
theorem dX4_grow_166 : decode cX4_grow 166 = .ok (.putfield 121, 3) := by decide +kernel
theorem dX4_grow_169 : decode cX4_grow 169 = .ok (.aload 7, 2) := by decide +kernel
theorem dX4_grow_171 : decode cX4_grow 171 = .ok (.ifnull 37, 3) := by decide +kernel
theorem dX4_grow_174 : decode cX4_grow 174 = .ok (.aload_n 1, 1) := by decide +kernel
theorem dX4_grow_175 : decode cX4_grow 175 = .ok (.dup, 1) := by decide +kernel
theorem dX4_grow_176 : decode cX4_grow 176 = .ok (.getfield 118, 3) := by decide +kernel
theorem dX4_grow_179 : decode cX4_grow 179 = .ok (.aload 7, 2) := by decide +kernel
theorem dX4_grow_181 : decode cX4_grow 181 = .ok (.getfield 190, 3) := by decide +kernel
theorem dX4_grow_184 : decode cX4_grow 184 = .ok (.iadd, 1) := by decide +kernel
theorem dX4_grow_185 : decode cX4_grow 185 = .ok (.putfield 118, 3) := by decide +kernel
theorem dX4_grow_188 : decode cX4_grow 188 = .ok (.aload_n 1, 1) := by decide +kernel
theorem dX4_grow_189 : decode cX4_grow 189 = .ok (.dup, 1) := by decide +kernel
theorem dX4_grow_190 : decode cX4_grow 190 = .ok (.getfield 121, 3) := by decide +kernel
theorem dX4_grow_193 : decode cX4_grow 193 = .ok (.aload 7, 2) := by decide +kernel
theorem dX4_grow_195 : decode cX4_grow 195 = .ok (.getfield 213, 3) := by decide +kernel
theorem dX4_grow_198 : decode cX4_grow 198 = .ok (.aload 7, 2) := by decide +kernel
theorem dX4_grow_200 : decode cX4_grow 200 = .ok (.getfield 216, 3) := by decide +kernel
theorem dX4_grow_203 : decode cX4_grow 203 = .ok (.isub, 1) := by decide +kernel
theorem dX4_grow_204 : decode cX4_grow 204 = .ok (.iadd, 1) := by decide +kernel
theorem dX4_grow_205 : decode cX4_grow 205 = .ok (.putfield 121, 3) := by decide +kernel
theorem dX4_grow_208 : decode cX4_grow 208 = .ok (.aload_n 1, 1) := by decide +kernel
theorem dX4_grow_209 : decode cX4_grow 209 = .ok (.getfield 96, 3) := by decide +kernel
theorem dX4_grow_212 : decode cX4_grow 212 = .ok (.aload 5, 2) := by decide +kernel
theorem dX4_grow_214 : decode cX4_grow 214 = .ok (.aload 7, 2) := by decide +kernel
theorem dX4_grow_216 : decode cX4_grow 216 = .ok (.invokevirtual 111, 3) := by decide +kernel
theorem dX4_grow_219 : decode cX4_grow 219 = .ok (.return_, 1) := by decide +kernel
theorem dX4_pathOfRank_0 : decode cX4_pathOfRank 0 = .ok (.iconst 0, 1) := by decide +kernel
theorem dX4_pathOfRank_1 : decode cX4_pathOfRank 1 = .ok (.istore_n 2, 1) := by decide +kernel
theorem dX4_pathOfRank_2 : decode cX4_pathOfRank 2 = .ok (.iload_n 2, 1) := by decide +kernel
theorem dX4_pathOfRank_3 : decode cX4_pathOfRank 3 = .ok (.aload_n 0, 1) := by decide +kernel
theorem dX4_pathOfRank_4 : decode cX4_pathOfRank 4 = .ok (.getfield 28, 3) := by decide +kernel
theorem dX4_pathOfRank_7 : decode cX4_pathOfRank 7 = .ok (.if_icmp .ge 29, 3) := by decide +kernel
theorem dX4_pathOfRank_10 : decode cX4_pathOfRank 10 = .ok (.aload_n 0, 1) := by decide +kernel
theorem dX4_pathOfRank_11 : decode cX4_pathOfRank 11 = .ok (.getfield 24, 3) := by decide +kernel
theorem dX4_pathOfRank_14 : decode cX4_pathOfRank 14 = .ok (.iload_n 2, 1) := by decide +kernel
theorem dX4_pathOfRank_15 : decode cX4_pathOfRank 15 = .ok (.aaload, 1) := by decide +kernel
theorem dX4_pathOfRank_16 : decode cX4_pathOfRank 16 = .ok (.getfield 127, 3) := by decide +kernel
theorem dX4_pathOfRank_19 : decode cX4_pathOfRank 19 = .ok (.iload_n 1, 1) := by decide +kernel
theorem dX4_pathOfRank_20 : decode cX4_pathOfRank 20 = .ok (.if_icmp .ne 10, 3) := by decide +kernel
theorem dX4_pathOfRank_23 : decode cX4_pathOfRank 23 = .ok (.aload_n 0, 1) := by decide +kernel
theorem dX4_pathOfRank_24 : decode cX4_pathOfRank 24 = .ok (.getfield 24, 3) := by decide +kernel
theorem dX4_pathOfRank_27 : decode cX4_pathOfRank 27 = .ok (.iload_n 2, 1) := by decide +kernel
theorem dX4_pathOfRank_28 : decode cX4_pathOfRank 28 = .ok (.aaload, 1) := by decide +kernel
theorem dX4_pathOfRank_29 : decode cX4_pathOfRank 29 = .ok (.areturn, 1) := by decide +kernel
theorem dX4_pathOfRank_30 : decode cX4_pathOfRank 30 = .ok (.iinc 2 1, 3) := by decide +kernel
theorem dX4_pathOfRank_33 : decode cX4_pathOfRank 33 = .ok (.goto (-31), 3) := by decide +kernel
theorem dX4_pathOfRank_36 : decode cX4_pathOfRank 36 = .ok (.aload_n 0, 1) := by decide +kernel
theorem dX4_pathOfRank_37 : decode cX4_pathOfRank 37 = .ok (.getfield 24, 3) := by decide +kernel
theorem dX4_pathOfRank_40 : decode cX4_pathOfRank 40 = .ok (.iconst 0, 1) := by decide +kernel
theorem dX4_pathOfRank_41 : decode cX4_pathOfRank 41 = .ok (.aaload, 1) := by decide +kernel
theorem dX4_pathOfRank_42 : decode cX4_pathOfRank 42 = .ok (.areturn, 1) := by decide +kernel
theorem dX4_keyForm_0 : decode cX4_keyForm 0 = .ok (.iload_n 0, 1) := by decide +kernel
theorem dX4_keyForm_1 : decode cX4_keyForm 1 = .ok (.bipush 63, 2) := by decide +kernel
theorem dX4_keyForm_3 : decode cX4_keyForm 3 = .ok (.iand, 1) := by decide +kernel
theorem dX4_keyForm_4 : decode cX4_keyForm 4 = .ok (.ireturn, 1) := by decide +kernel
theorem dX4_rankOf_0 : decode cX4_rankOf 0 = .ok (.sipush 16383, 3) := by decide +kernel
theorem dX4_rankOf_3 : decode cX4_rankOf 3 = .ok (.istore_n 2, 1) := by decide +kernel
theorem dX4_rankOf_4 : decode cX4_rankOf 4 = .ok (.iconst 0, 1) := by decide +kernel
theorem dX4_rankOf_5 : decode cX4_rankOf 5 = .ok (.istore_n 3, 1) := by decide +kernel
theorem dX4_rankOf_6 : decode cX4_rankOf 6 = .ok (.iconst 0, 1) := by decide +kernel
theorem dX4_rankOf_7 : decode cX4_rankOf 7 = .ok (.istore 4, 2) := by decide +kernel
theorem dX4_rankOf_9 : decode cX4_rankOf 9 = .ok (.iload 4, 2) := by decide +kernel
theorem dX4_rankOf_11 : decode cX4_rankOf 11 = .ok (.aload_n 0, 1) := by decide +kernel
theorem dX4_rankOf_12 : decode cX4_rankOf 12 = .ok (.getfield 39, 3) := by decide +kernel
theorem dX4_rankOf_15 : decode cX4_rankOf 15 = .ok (.if_icmp .ge 27, 3) := by decide +kernel
theorem dX4_rankOf_18 : decode cX4_rankOf 18 = .ok (.aload_n 0, 1) := by decide +kernel
theorem dX4_rankOf_19 : decode cX4_rankOf 19 = .ok (.getfield 35, 3) := by decide +kernel
theorem dX4_rankOf_22 : decode cX4_rankOf 22 = .ok (.iload 4, 2) := by decide +kernel
theorem dX4_rankOf_24 : decode cX4_rankOf 24 = .ok (.iaload, 1) := by decide +kernel
theorem dX4_rankOf_25 : decode cX4_rankOf 25 = .ok (.iload_n 2, 1) := by decide +kernel
theorem dX4_rankOf_26 : decode cX4_rankOf 26 = .ok (.iand, 1) := by decide +kernel
theorem dX4_rankOf_27 : decode cX4_rankOf 27 = .ok (.iload_n 1, 1) := by decide +kernel
theorem dX4_rankOf_28 : decode cX4_rankOf 28 = .ok (.iload_n 2, 1) := by decide +kernel
theorem dX4_rankOf_29 : decode cX4_rankOf 29 = .ok (.iand, 1) := by decide +kernel
theorem dX4_rankOf_30 : decode cX4_rankOf 30 = .ok (.if_icmp .ge 6, 3) := by decide +kernel
theorem dX4_rankOf_33 : decode cX4_rankOf 33 = .ok (.iinc 3 1, 3) := by decide +kernel
theorem dX4_rankOf_36 : decode cX4_rankOf 36 = .ok (.iinc 4 1, 3) := by decide +kernel
theorem dX4_rankOf_39 : decode cX4_rankOf 39 = .ok (.goto (-30), 3) := by decide +kernel
theorem dX4_rankOf_42 : decode cX4_rankOf 42 = .ok (.iload_n 3, 1) := by decide +kernel
theorem dX4_rankOf_43 : decode cX4_rankOf 43 = .ok (.ireturn, 1) := by decide +kernel
