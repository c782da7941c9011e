theorem dX8_foresees_28 : decode cX8_foresees 28 = .ok (.goto (-16), 3) := by decide +kernel
theorem dX8_foresees_31 : decode cX8_foresees 31 = .ok (.aload_n 0, 1) := by decide +kernel
theorem dX8_foresees_32 : decode cX8_foresees 32 = .ok (.getfield 129, 3) := by decide +kernel
theorem dX8_foresees_35 : decode cX8_foresees 35 = .ok (.sipush 200, 3) := by decide +kernel
theorem dX8_foresees_38 : decode cX8_foresees 38 = .ok (.if_icmp .ge 11, 3) := by decide +kernel
theorem dX8_foresees_41 : decode cX8_foresees 41 = .ok (.aload_n 0, 1) := by decide +kernel
theorem dX8_foresees_42 : decode cX8_foresees 42 = .ok (.iconst 0, 1) := by decide +kernel
theorem dX8_foresees_43 : decode cX8_foresees 43 = .ok (.invokevirtual 186, 3) := by decide +kernel
theorem dX8_foresees_46 : decode cX8_foresees 46 = .ok (.goto (-15), 3) := by decide +kernel
theorem dX8_foresees_49 : decode cX8_foresees 49 = .ok (.aload_n 0, 1) := by decide +kernel
theorem dX8_foresees_50 : decode cX8_foresees 50 = .ok (.aload_n 0, 1) := by decide +kernel
theorem dX8_foresees_51 : decode cX8_foresees 51 = .ok (.getfield 176, 3) := by decide +kernel
theorem dX8_foresees_54 : decode cX8_foresees 54 = .ok (.iload_n 1, 1) := by decide +kernel
theorem dX8_foresees_55 : decode cX8_foresees 55 = .ok (.isub, 1) := by decide +kernel
theorem dX8_foresees_56 : decode cX8_foresees 56 = .ok (.putfield 200, 3) := by decide +kernel
theorem dX8_foresees_59 : decode cX8_foresees 59 = .ok (.aload_n 0, 1) := by decide +kernel
theorem dX8_foresees_60 : decode cX8_foresees 60 = .ok (.iconst (-1), 1) := by decide +kernel
theorem dX8_foresees_61 : decode cX8_foresees 61 = .ok (.putfield 203, 3) := by decide +kernel
theorem dX8_foresees_64 : decode cX8_foresees 64 = .ok (.aload_n 0, 1) := by decide +kernel
theorem dX8_foresees_65 : decode cX8_foresees 65 = .ok (.getfield 121, 3) := by decide +kernel
theorem dX8_foresees_68 : decode cX8_foresees 68 = .ok (.ifCond .le 7, 3) := by decide +kernel
theorem dX8_foresees_71 : decode cX8_foresees 71 = .ok (.iconst 1, 1) := by decide +kernel
theorem dX8_foresees_72 : decode cX8_foresees 72 = .ok (.goto 4, 3) := by decide +kernel
theorem dX8_foresees_75 : decode cX8_foresees 75 = .ok (.iconst 0, 1) := by decide +kernel
theorem dX8_foresees_76 : decode cX8_foresees 76 = .ok (.istore_n 2, 1) := by decide +kernel
theorem dX8_foresees_77 : decode cX8_foresees 77 = .ok (.iconst 0, 1) := by decide +kernel
theorem dX8_foresees_78 : decode cX8_foresees 78 = .ok (.istore_n 3, 1) := by decide +kernel
theorem dX8_foresees_79 : decode cX8_foresees 79 = .ok (.iload_n 3, 1) := by decide +kernel
theorem dX8_foresees_80 : decode cX8_foresees 80 = .ok (.aload_n 0, 1) := by decide +kernel
theorem dX8_foresees_81 : decode cX8_foresees 81 = .ok (.getfield 121, 3) := by decide +kernel
theorem dX8_foresees_84 : decode cX8_foresees 84 = .ok (.if_icmp .ge 52, 3) := by decide +kernel
theorem dX8_foresees_87 : decode cX8_foresees 87 = .ok (.iload_n 2, 1) := by decide +kernel
theorem dX8_foresees_88 : decode cX8_foresees 88 = .ok (.ifCond .eq 17, 3) := by decide +kernel
theorem dX8_foresees_91 : decode cX8_foresees 91 = .ok (.aload_n 0, 1) := by decide +kernel
theorem dX8_foresees_92 : decode cX8_foresees 92 = .ok (.getfield 87, 3) := by decide +kernel
theorem dX8_foresees_95 : decode cX8_foresees 95 = .ok (.iload_n 3, 1) := by decide +kernel
theorem dX8_foresees_96 : decode cX8_foresees 96 = .ok (.iaload, 1) := by decide +kernel
theorem dX8_foresees_97 : decode cX8_foresees 97 = .ok (.iconst (-1), 1) := by decide +kernel
theorem dX8_foresees_98 : decode cX8_foresees 98 = .ok (.if_icmp .eq 7, 3) := by decide +kernel
theorem dX8_foresees_101 : decode cX8_foresees 101 = .ok (.iconst 1, 1) := by decide +kernel
theorem dX8_foresees_102 : decode cX8_foresees 102 = .ok (.goto 4, 3) := by decide +kernel
theorem dX8_foresees_105 : decode cX8_foresees 105 = .ok (.iconst 0, 1) := by decide +kernel
theorem dX8_foresees_106 : decode cX8_foresees 106 = .ok (.istore_n 2, 1) := by decide +kernel
theorem dX8_foresees_107 : decode cX8_foresees 107 = .ok (.aload_n 0, 1) := by decide +kernel
theorem dX8_foresees_108 : decode cX8_foresees 108 = .ok (.getfield 87, 3) := by decide +kernel
theorem dX8_foresees_111 : decode cX8_foresees 111 = .ok (.iload_n 3, 1) := by decide +kernel
theorem dX8_foresees_112 : decode cX8_foresees 112 = .ok (.iaload, 1) := by decide +kernel
theorem dX8_foresees_113 : decode cX8_foresees 113 = .ok (.aload_n 0, 1) := by decide +kernel
theorem dX8_foresees_114 : decode cX8_foresees 114 = .ok (.getfield 203, 3) := by decide +kernel
theorem dX8_foresees_117 : decode cX8_foresees 117 = .ok (.if_icmp .le 13, 3) := by decide +kernel
theorem dX8_foresees_120 : decode cX8_foresees 120 = .ok (.aload_n 0, 1) := by decide +kernel
theorem dX8_foresees_121 : decode cX8_foresees 121 = .ok (.aload_n 0, 1) := by decide +kernel
theorem dX8_foresees_122 : decode cX8_foresees 122 = .ok (.getfield 87, 3) := by decide +kernel
theorem dX8_foresees_125 : decode cX8_foresees 125 = .ok (.iload_n 3, 1) := by decide +kernel
theorem dX8_foresees_126 : decode cX8_foresees 126 = .ok (.iaload, 1) := by decide +kernel
theorem dX8_foresees_127 : decode cX8_foresees 127 = .ok (.putfield 203, 3) := by decide +kernel
theorem dX8_foresees_130 : decode cX8_foresees 130 = .ok (.iinc 3 1, 3) := by decide +kernel
theorem dX8_foresees_133 : decode cX8_foresees 133 = .ok (.goto (-54), 3) := by decide +kernel
theorem dX8_foresees_136 : decode cX8_foresees 136 = .ok (.iload_n 2, 1) := by decide +kernel
theorem dX8_foresees_137 : decode cX8_foresees 137 = .ok (.ifCond .ne 8, 3) := by decide +kernel
theorem dX8_foresees_140 : decode cX8_foresees 140 = .ok (.aload_n 0, 1) := by decide +kernel
theorem dX8_foresees_141 : decode cX8_foresees 141 = .ok (.iconst (-1), 1) := by decide +kernel
theorem dX8_foresees_142 : decode cX8_foresees 142 = .ok (.putfield 203, 3) := by decide +kernel
theorem dX8_foresees_145 : decode cX8_foresees 145 = .ok (.aload_n 0, 1) := by decide +kernel
theorem dX8_foresees_146 : decode cX8_foresees 146 = .ok (.iconst 1, 1) := by decide +kernel
theorem dX8_foresees_147 : decode cX8_foresees 147 = .ok (.invokevirtual 197, 3) := by decide +kernel
theorem dX8_foresees_150 : decode cX8_foresees 150 = .ok (.return_, 1) := by decide +kernel
theorem dX8_foretold_0 : decode cX8_foretold 0 = .ok (.iload_n 1, 1) := by decide +kernel
theorem dX8_foretold_1 : decode cX8_foretold 1 = .ok (.iconst 0, 1) := by decide +kernel
theorem dX8_foretold_2 : decode cX8_foretold 2 = .ok (.iconst 1, 1) := by decide +kernel
theorem dX8_foretold_3 : decode cX8_foretold 3 = .ok (.invokestatic 114, 3) := by decide +kernel
theorem dX8_foretold_6 : decode cX8_foretold 6 = .ok (.ifCond .ne 5, 3) := by decide +kernel
theorem dX8_foretold_9 : decode cX8_foretold 9 = .ok (.iconst (-1), 1) := by decide +kernel
theorem dX8_foretold_10 : decode cX8_foretold 10 = .ok (.ireturn, 1) := by decide +kernel
theorem dX8_foretold_11 : decode cX8_foretold 11 = .ok (.aload_n 0, 1) := by decide +kernel
theorem dX8_foretold_12 : decode cX8_foretold 12 = .ok (.invokevirtual 206, 3) := by decide +kernel
theorem dX8_foretold_15 : decode cX8_foretold 15 = .ok (.iload_n 1, 1) := by decide +kernel
theorem dX8_foretold_16 : decode cX8_foretold 16 = .ok (.ifCond .ne 10, 3) := by decide +kernel
theorem dX8_foretold_19 : decode cX8_foretold 19 = .ok (.aload_n 0, 1) := by decide +kernel
theorem dX8_foretold_20 : decode cX8_foretold 20 = .ok (.getfield 203, 3) := by decide +kernel
theorem dX8_foretold_23 : decode cX8_foretold 23 = .ok (.goto 7, 3) := by decide +kernel
theorem dX8_foretold_26 : decode cX8_foretold 26 = .ok (.aload_n 0, 1) := by decide +kernel
theorem dX8_foretold_27 : decode cX8_foretold 27 = .ok (.getfield 200, 3) := by decide +kernel
theorem dX8_foretold_30 : decode cX8_foretold 30 = .ok (.ireturn, 1) := by decide +kernel
theorem dX8_lacks_0 : decode cX8_lacks 0 = .ok (.aload_n 0, 1) := by decide +kernel
theorem dX8_lacks_1 : decode cX8_lacks 1 = .ok (.iload_n 1, 1) := by decide +kernel
theorem dX8_lacks_2 : decode cX8_lacks 2 = .ok (.invokevirtual 125, 3) := by decide +kernel
theorem dX8_lacks_5 : decode cX8_lacks 5 = .ok (.ifCond .ne 5, 3) := by decide +kernel
theorem dX8_lacks_8 : decode cX8_lacks 8 = .ok (.iconst (-1), 1) := by decide +kernel
theorem dX8_lacks_9 : decode cX8_lacks 9 = .ok (.ireturn, 1) := by decide +kernel
theorem dX8_lacks_10 : decode cX8_lacks 10 = .ok (.aload_n 0, 1) := by decide +kernel
theorem dX8_lacks_11 : decode cX8_lacks 11 = .ok (.invokevirtual 206, 3) := by decide +kernel
theorem dX8_lacks_14 : decode cX8_lacks 14 = .ok (.aload_n 0, 1) := by decide +kernel
theorem dX8_lacks_15 : decode cX8_lacks 15 = .ok (.getfield 96, 3) := by decide +kernel
theorem dX8_lacks_18 : decode cX8_lacks 18 = .ok (.iload_n 1, 1) := by decide +kernel
theorem dX8_lacks_19 : decode cX8_lacks 19 = .ok (.iaload, 1) := by decide +kernel
theorem dX8_lacks_20 : decode cX8_lacks 20 = .ok (.ireturn, 1) := by decide +kernel
theorem dX8_plans_0 : decode cX8_plans 0 = .ok (.iconst 0, 1) := by decide +kernel
theorem dX8_plans_1 : decode cX8_plans 1 = .ok (.istore_n 1, 1) := by decide +kernel
theorem dX8_plans_2 : decode cX8_plans 2 = .ok (.iconst 0, 1) := by decide +kernel
theorem dX8_plans_3 : decode cX8_plans 3 = .ok (.istore_n 2, 1) := by decide +kernel
theorem dX8_plans_4 : decode cX8_plans 4 = .ok (.iload_n 2, 1) := by decide +kernel
theorem dX8_plans_5 : decode cX8_plans 5 = .ok (.aload_n 0, 1) := by decide +kernel
theorem dX8_plans_6 : decode cX8_plans 6 = .ok (.getfield 121, 3) := by decide +kernel
theorem dX8_plans_9 : decode cX8_plans 9 = .ok (.if_icmp .ge 50, 3) := by decide +kernel
theorem dX8_plans_12 : decode cX8_plans 12 = .ok (.aload_n 0, 1) := by decide +kernel
theorem dX8_plans_13 : decode cX8_plans 13 = .ok (.getfield 81, 3) := by decide +kernel
theorem dX8_plans_16 : decode cX8_plans 16 = .ok (.iload_n 2, 1) := by decide +kernel
theorem dX8_plans_17 : decode cX8_plans 17 = .ok (.baload, 1) := by decide +kernel
theorem dX8_plans_18 : decode cX8_plans 18 = .ok (.ifCond .eq 6, 3) := by decide +kernel
theorem dX8_plans_21 : decode cX8_plans 21 = .ok (.goto 32, 3) := by decide +kernel
theorem dX8_plans_24 : decode cX8_plans 24 = .ok (.iload_n 1, 1) := by decide +kernel
theorem dX8_plans_25 : decode cX8_plans 25 = .ok (.iconst 4, 1) := by decide +kernel
theorem dX8_plans_26 : decode cX8_plans 26 = .ok (.if_icmp .ne 5, 3) := by decide +kernel
theorem dX8_plans_29 : decode cX8_plans 29 = .ok (.iconst (-1), 1) := by decide +kernel
theorem dX8_plans_30 : decode cX8_plans 30 = .ok (.ireturn, 1) := by decide +kernel
theorem dX8_plans_31 : decode cX8_plans 31 = .ok (.aload_n 0, 1) := by decide +kernel
theorem dX8_plans_32 : decode cX8_plans 32 = .ok (.getfield 102, 3) := by decide +kernel
theorem dX8_plans_35 : decode cX8_plans 35 = .ok (.iload_n 1, 1) := by decide +kernel
theorem dX8_plans_36 : decode cX8_plans 36 = .ok (.iload_n 2, 1) := by decide +kernel
theorem dX8_plans_37 : decode cX8_plans 37 = .ok (.iastore, 1) := by decide +kernel
theorem dX8_plans_38 : decode cX8_plans 38 = .ok (.aload_n 0, 1) := by decide +kernel
theorem dX8_plans_39 : decode cX8_plans 39 = .ok (.getfield 105, 3) := by decide +kernel
theorem dX8_plans_42 : decode cX8_plans 42 = .ok (.iload_n 1, 1) := by decide +kernel
theorem dX8_plans_43 : decode cX8_plans 43 = .ok (.aload_n 0, 1) := by decide +kernel
theorem dX8_plans_44 : decode cX8_plans 44 = .ok (.getfield 50, 3) := by decide +kernel
theorem dX8_plans_47 : decode cX8_plans 47 = .ok (.iload_n 2, 1) := by decide +kernel
theorem dX8_plans_48 : decode cX8_plans 48 = .ok (.iaload, 1) := by decide +kernel
theorem dX8_plans_49 : decode cX8_plans 49 = .ok (.iastore, 1) := by decide +kernel
theorem dX8_plans_50 : decode cX8_plans 50 = .ok (.iinc 1 1, 3) := by decide +kernel
theorem dX8_plans_53 : decode cX8_plans 53 = .ok (.iinc 2 1, 3) := by decide +kernel
theorem dX8_plans_56 : decode cX8_plans 56 = .ok (.goto (-52), 3) := by decide +kernel
theorem dX8_plans_59 : decode cX8_plans 59 = .ok (.sipush 200, 3) := by decide +kernel
theorem dX8_plans_62 : decode cX8_plans 62 = .ok (.aload_n 0, 1) := by decide +kernel
theorem dX8_plans_63 : decode cX8_plans 63 = .ok (.getfield 129, 3) := by decide +kernel
theorem dX8_plans_66 : decode cX8_plans 66 = .ok (.isub, 1) := by decide +kernel
theorem dX8_plans_67 : decode cX8_plans 67 = .ok (.iconst 4, 1) := by decide +kernel
theorem dX8_plans_68 : decode cX8_plans 68 = .ok (.if_icmp .ge 14, 3) := by decide +kernel
theorem dX8_plans_71 : decode cX8_plans 71 = .ok (.sipush 200, 3) := by decide +kernel
theorem dX8_plans_74 : decode cX8_plans 74 = .ok (.aload_n 0, 1) := by decide +kernel
theorem dX8_plans_75 : decode cX8_plans 75 = .ok (.getfield 129, 3) := by decide +kernel
theorem dX8_plans_78 : decode cX8_plans 78 = .ok (.isub, 1) := by decide +kernel
theorem dX8_plans_79 : decode cX8_plans 79 = .ok (.goto 4, 3) := by decide +kernel
theorem dX8_plans_82 : decode cX8_plans 82 = .ok (.iconst 4, 1) := by decide +kernel
theorem dX8_plans_83 : decode cX8_plans 83 = .ok (.istore_n 2, 1) := by decide +kernel
theorem dX8_plans_84 : decode cX8_plans 84 = .ok (.iload_n 1, 1) := by decide +kernel
theorem dX8_plans_85 : decode cX8_plans 85 = .ok (.ifCond .eq 7, 3) := by decide +kernel
theorem dX8_plans_88 : decode cX8_plans 88 = .ok (.iload_n 2, 1) := by decide +kernel
theorem dX8_plans_89 : decode cX8_plans 89 = .ok (.ifCond .ne 5, 3) := by decide +kernel
theorem dX8_plans_92 : decode cX8_plans 92 = .ok (.iconst (-1), 1) := by decide +kernel
theorem dX8_plans_93 : decode cX8_plans 93 = .ok (.ireturn, 1) := by decide +kernel
theorem dX8_plans_94 : decode cX8_plans 94 = .ok (.iconst 1, 1) := by decide +kernel
theorem dX8_plans_95 : decode cX8_plans 95 = .ok (.istore_n 3, 1) := by decide +kernel
theorem dX8_plans_96 : decode cX8_plans 96 = .ok (.iconst 0, 1) := by decide +kernel
theorem dX8_plans_97 : decode cX8_plans 97 = .ok (.istore 4, 2) := by decide +kernel
theorem dX8_plans_99 : decode cX8_plans 99 = .ok (.iload 4, 2) := by decide +kernel
theorem dX8_plans_101 : decode cX8_plans 101 = .ok (.iload_n 1, 1) := by decide +kernel
theorem dX8_plans_102 : decode cX8_plans 102 = .ok (.if_icmp .ge 13, 3) := by decide +kernel
theorem dX8_plans_105 : decode cX8_plans 105 = .ok (.iload_n 3, 1) := by decide +kernel
theorem dX8_plans_106 : decode cX8_plans 106 = .ok (.iload_n 2, 1) := by decide +kernel
theorem dX8_plans_107 : decode cX8_plans 107 = .ok (.imul, 1) := by decide +kernel
theorem dX8_plans_108 : decode cX8_plans 108 = .ok (.istore_n 3, 1) := by decide +kernel
theorem dX8_plans_109 : decode cX8_plans 109 = .ok (.iinc 4 1, 3) := by decide +kernel
theorem dX8_plans_112 : decode cX8_plans 112 = .ok (.goto (-13), 3) := by decide +kernel
theorem dX8_plans_115 : decode cX8_plans 115 = .ok (.aload_n 0, 1) := by decide +kernel
theorem dX8_plans_116 : decode cX8_plans 116 = .ok (.sipush 10000, 3) := by decide +kernel
theorem dX8_plans_119 : decode cX8_plans 119 = .ok (.putfield 209, 3) := by decide +kernel
theorem dX8_plans_122 : decode cX8_plans 122 = .ok (.iconst 0, 1) := by decide +kernel
theorem dX8_plans_123 : decode cX8_plans 123 = .ok (.istore 4, 2) := by decide +kernel
theorem dX8_plans_125 : decode cX8_plans 125 = .ok (.iload 4, 2) := by decide +kernel
theorem dX8_plans_127 : decode cX8_plans 127 = .ok (.iload_n 3, 1) := by decide +kernel
theorem dX8_plans_128 : decode cX8_plans 128 = .ok (.if_icmp .ge 132, 3) := by decide +kernel
theorem dX8_plans_131 : decode cX8_plans 131 = .ok (.iload 4, 2) := by decide +kernel
theorem dX8_plans_133 : decode cX8_plans 133 = .ok (.istore 5, 2) := by decide +kernel
theorem dX8_plans_135 : decode cX8_plans 135 = .ok (.iload_n 1, 1) := by decide +kernel
theorem dX8_plans_136 : decode cX8_plans 136 = .ok (.iconst 1, 1) := by decide +kernel
theorem dX8_plans_137 : decode cX8_plans 137 = .ok (.isub, 1) := by decide +kernel
theorem dX8_plans_138 : decode cX8_plans 138 = .ok (.istore 6, 2) := by decide +kernel
theorem dX8_plans_140 : decode cX8_plans 140 = .ok (.iload 6, 2) := by decide +kernel
theorem dX8_plans_142 : decode cX8_plans 142 = .ok (.ifCond .lt 36, 3) := by decide +kernel
theorem dX8_plans_145 : decode cX8_plans 145 = .ok (.aload_n 0, 1) := by decide +kernel
theorem dX8_plans_146 : decode cX8_plans 146 = .ok (.getfield 50, 3) := by decide +kernel
theorem dX8_plans_149 : decode cX8_plans 149 = .ok (.aload_n 0, 1) := by decide +kernel
theorem dX8_plans_150 : decode cX8_plans 150 = .ok (.getfield 102, 3) := by decide +kernel
theorem dX8_plans_153 : decode cX8_plans 153 = .ok (.iload 6, 2) := by decide +kernel
theorem dX8_plans_155 : decode cX8_plans 155 = .ok (.iaload, 1) := by decide +kernel
theorem dX8_plans_156 : decode cX8_plans 156 = .ok (.aload_n 0, 1) := by decide +kernel
theorem dX8_plans_157 : decode cX8_plans 157 = .ok (.getfield 129, 3) := by decide +kernel
theorem dX8_plans_160 : decode cX8_plans 160 = .ok (.iload 5, 2) := by decide +kernel
theorem dX8_plans_162 : decode cX8_plans 162 = .ok (.iload_n 2, 1) := by decide +kernel
theorem dX8_plans_163 : decode cX8_plans 163 = .ok (.irem, 1) := by decide +kernel
theorem dX8_plans_164 : decode cX8_plans 164 = .ok (.iadd, 1) := by decide +kernel
theorem dX8_plans_165 : decode cX8_plans 165 = .ok (.iastore, 1) := by decide +kernel
theorem dX8_plans_166 : decode cX8_plans 166 = .ok (.iload 5, 2) := by decide +kernel
theorem dX8_plans_168 : decode cX8_plans 168 = .ok (.iload_n 2, 1) := by decide +kernel
theorem dX8_plans_169 : decode cX8_plans 169 = .ok (.idiv, 1) := by decide +kernel
theorem dX8_plans_170 : decode cX8_plans 170 = .ok (.istore 5, 2) := by decide +kernel
theorem dX8_plans_172 : decode cX8_plans 172 = .ok (.iinc 6 (-1), 3) := by decide +kernel
theorem dX8_plans_175 : decode cX8_plans 175 = .ok (.goto (-35), 3) := by decide +kernel
theorem dX8_plans_178 : decode cX8_plans 178 = .ok (.aload_n 0, 1) := by decide +kernel
theorem dX8_plans_179 : decode cX8_plans 179 = .ok (.invokevirtual 206, 3) := by decide +kernel
theorem dX8_plans_182 : decode cX8_plans 182 = .ok (.aload_n 0, 1) := by decide +kernel
theorem dX8_plans_183 : decode cX8_plans 183 = .ok (.getfield 203, 3) := by decide +kernel
theorem dX8_plans_186 : decode cX8_plans 186 = .ok (.iconst (-1), 1) := by decide +kernel
theorem dX8_plans_187 : decode cX8_plans 187 = .ok (.if_icmp .ne 9, 3) := by decide +kernel
theorem dX8_plans_190 : decode cX8_plans 190 = .ok (.sipush 200, 3) := by decide +kernel
theorem dX8_plans_193 : decode cX8_plans 193 = .ok (.goto 7, 3) := by decide +kernel
theorem dX8_plans_196 : decode cX8_plans 196 = .ok (.aload_n 0, 1) := by decide +kernel
theorem dX8_plans_197 : decode cX8_plans 197 = .ok (.getfield 203, 3) := by decide +kernel
theorem dX8_plans_200 : decode cX8_plans 200 = .ok (.istore 6, 2) := by decide +kernel
theorem dX8_plans_202 : decode cX8_plans 202 = .ok (.iload 6, 2) := by decide +kernel
theorem dX8_plans_204 : decode cX8_plans 204 = .ok (.aload_n 0, 1) := by decide +kernel
theorem dX8_plans_205 : decode cX8_plans 205 = .ok (.getfield 209, 3) := by decide +kernel
theorem dX8_plans_208 : decode cX8_plans 208 = .ok (.if_icmp .gt 46, 3) := by decide +kernel
theorem dX8_plans_211 : decode cX8_plans 211 = .ok (.iload 6, 2) := by decide +kernel
theorem dX8_plans_213 : decode cX8_plans 213 = .ok (.aload_n 0, 1) := by decide +kernel
theorem dX8_plans_214 : decode cX8_plans 214 = .ok (.getfield 209, 3) := by decide +kernel
theorem dX8_plans_217 : decode cX8_plans 217 = .ok (.if_icmp .ne 17, 3) := by decide +kernel
theorem dX8_plans_220 : decode cX8_plans 220 = .ok (.aload_n 0, 1) := by decide +kernel
theorem dX8_plans_221 : decode cX8_plans 221 = .ok (.getfield 200, 3) := by decide +kernel
theorem dX8_plans_224 : decode cX8_plans 224 = .ok (.aload_n 0, 1) := by decide +kernel
theorem dX8_plans_225 : decode cX8_plans 225 = .ok (.getfield 212, 3) := by decide +kernel
theorem dX8_plans_228 : decode cX8_plans 228 = .ok (.if_icmp .lt 6, 3) := by decide +kernel
theorem dX8_plans_231 : decode cX8_plans 231 = .ok (.goto 23, 3) := by decide +kernel
theorem dX8_plans_234 : decode cX8_plans 234 = .ok (.aload_n 0, 1) := by decide +kernel
theorem dX8_plans_235 : decode cX8_plans 235 = .ok (.iload 6, 2) := by decide +kernel
theorem dX8_plans_237 : decode cX8_plans 237 = .ok (.putfield 209, 3) := by decide +kernel
theorem dX8_plans_240 : decode cX8_plans 240 = .ok (.aload_n 0, 1) := by decide +kernel
theorem dX8_plans_241 : decode cX8_plans 241 = .ok (.aload_n 0, 1) := by decide +kernel
theorem dX8_plans_242 : decode cX8_plans 242 = .ok (.getfield 200, 3) := by decide +kernel
theorem dX8_plans_245 : decode cX8_plans 245 = .ok (.putfield 212, 3) := by decide +kernel
theorem dX8_plans_248 : decode cX8_plans 248 = .ok (.aload_n 0, 1) := by decide +kernel
theorem dX8_plans_249 : decode cX8_plans 249 = .ok (.iload 4, 2) := by decide +kernel
theorem dX8_plans_251 : decode cX8_plans 251 = .ok (.putfield 215, 3) := by decide +kernel
theorem dX8_plans_254 : decode cX8_plans 254 = .ok (.iinc 4 1, 3) := by decide +kernel
theorem dX8_plans_257 : decode cX8_plans 257 = .ok (.goto (-132), 3) := by decide +kernel
theorem dX8_plans_260 : decode cX8_plans 260 = .ok (.iconst 0, 1) := by decide +kernel
theorem dX8_plans_261 : decode cX8_plans 261 = .ok (.istore 4, 2) := by decide +kernel
theorem dX8_plans_263 : decode cX8_plans 263 = .ok (.iload 4, 2) := by decide +kernel
theorem dX8_plans_265 : decode cX8_plans 265 = .ok (.iload_n 1, 1) := by decide +kernel
theorem dX8_plans_266 : decode cX8_plans 266 = .ok (.if_icmp .ge 28, 3) := by decide +kernel
theorem dX8_plans_269 : decode cX8_plans 269 = .ok (.aload_n 0, 1) := by decide +kernel
theorem dX8_plans_270 : decode cX8_plans 270 = .ok (.getfield 50, 3) := by decide +kernel
theorem dX8_plans_273 : decode cX8_plans 273 = .ok (.aload_n 0, 1) := by decide +kernel
theorem dX8_plans_274 : decode cX8_plans 274 = .ok (.getfield 102, 3) := by decide +kernel
theorem dX8_plans_277 : decode cX8_plans 277 = .ok (.iload 4, 2) := by decide +kernel
theorem dX8_plans_279 : decode cX8_plans 279 = .ok (.iaload, 1) := by decide +kernel
theorem dX8_plans_280 : decode cX8_plans 280 = .ok (.aload_n 0, 1) := by decide +kernel
theorem dX8_plans_281 : decode cX8_plans 281 = .ok (.getfield 105, 3) := by decide +kernel
theorem dX8_plans_284 : decode cX8_plans 284 = .ok (.iload 4, 2) := by decide +kernel
theorem dX8_plans_286 : decode cX8_plans 286 = .ok (.iaload, 1) := by decide +kernel
theorem dX8_plans_287 : decode cX8_plans 287 = .ok (.iastore, 1) := by decide +kernel
theorem dX8_plans_288 : decode cX8_plans 288 = .ok (.iinc 4 1, 3) := by decide +kernel
theorem dX8_plans_291 : decode cX8_plans 291 = .ok (.goto (-28), 3) := by decide +kernel
theorem dX8_plans_294 : decode cX8_plans 294 = .ok (.iload_n 1, 1) := by decide +kernel
theorem dX8_plans_295 : decode cX8_plans 295 = .ok (.ireturn, 1) := by decide +kernel
theorem dX8_plan_0 : decode cX8_plan 0 = .ok (.aload_n 0, 1) := by decide +kernel
theorem dX8_plan_1 : decode cX8_plan 1 = .ok (.invokevirtual 218, 3) := by decide +kernel
theorem dX8_plan_4 : decode cX8_plan 4 = .ok (.istore_n 2, 1) := by decide +kernel
theorem dX8_plan_5 : decode cX8_plan 5 = .ok (.sipush 200, 3) := by decide +kernel
theorem dX8_plan_8 : decode cX8_plan 8 = .ok (.aload_n 0, 1) := by decide +kernel
theorem dX8_plan_9 : decode cX8_plan 9 = .ok (.getfield 129, 3) := by decide +kernel
theorem dX8_plan_12 : decode cX8_plan 12 = .ok (.isub, 1) := by decide +kernel
theorem dX8_plan_13 : decode cX8_plan 13 = .ok (.iconst 4, 1) := by decide +kernel
theorem dX8_plan_14 : decode cX8_plan 14 = .ok (.if_icmp .ge 14, 3) := by decide +kernel
theorem dX8_plan_17 : decode cX8_plan 17 = .ok (.sipush 200, 3) := by decide +kernel
theorem dX8_plan_20 : decode cX8_plan 20 = .ok (.aload_n 0, 1) := by decide +kernel
theorem dX8_plan_21 : decode cX8_plan 21 = .ok (.getfield 129, 3) := by decide +kernel
theorem dX8_plan_24 : decode cX8_plan 24 = .ok (.isub, 1) := by decide +kernel
theorem dX8_plan_25 : decode cX8_plan 25 = .ok (.goto 4, 3) := by decide +kernel
theorem dX8_plan_28 : decode cX8_plan 28 = .ok (.iconst 4, 1) := by decide +kernel
theorem dX8_plan_29 : decode cX8_plan 29 = .ok (.istore_n 3, 1) := by decide +kernel
theorem dX8_plan_30 : decode cX8_plan 30 = .ok (.aload_n 0, 1) := by decide +kernel
theorem dX8_plan_31 : decode cX8_plan 31 = .ok (.getfield 215, 3) := by decide +kernel
theorem dX8_plan_34 : decode cX8_plan 34 = .ok (.istore 4, 2) := by decide +kernel
theorem dX8_plan_36 : decode cX8_plan 36 = .ok (.iload_n 2, 1) := by decide +kernel
theorem dX8_plan_37 : decode cX8_plan 37 = .ok (.iconst 1, 1) := by decide +kernel
theorem dX8_plan_38 : decode cX8_plan 38 = .ok (.isub, 1) := by decide +kernel
theorem dX8_plan_39 : decode cX8_plan 39 = .ok (.istore 5, 2) := by decide +kernel
theorem dX8_plan_41 : decode cX8_plan 41 = .ok (.iload 5, 2) := by decide +kernel
theorem dX8_plan_43 : decode cX8_plan 43 = .ok (.ifCond .lt 36, 3) := by decide +kernel
theorem dX8_plan_46 : decode cX8_plan 46 = .ok (.aload_n 0, 1) := by decide +kernel
theorem dX8_plan_47 : decode cX8_plan 47 = .ok (.getfield 102, 3) := by decide +kernel
theorem dX8_plan_50 : decode cX8_plan 50 = .ok (.iload 5, 2) := by decide +kernel
theorem dX8_plan_52 : decode cX8_plan 52 = .ok (.iaload, 1) := by decide +kernel
theorem dX8_plan_53 : decode cX8_plan 53 = .ok (.iload_n 1, 1) := by decide +kernel
theorem dX8_plan_54 : decode cX8_plan 54 = .ok (.if_icmp .ne 13, 3) := by decide +kernel
theorem dX8_plan_57 : decode cX8_plan 57 = .ok (.aload_n 0, 1) := by decide +kernel
theorem dX8_plan_58 : decode cX8_plan 58 = .ok (.getfield 129, 3) := by decide +kernel
theorem dX8_plan_61 : decode cX8_plan 61 = .ok (.iload 4, 2) := by decide +kernel
theorem dX8_plan_63 : decode cX8_plan 63 = .ok (.iload_n 3, 1) := by decide +kernel
theorem dX8_plan_64 : decode cX8_plan 64 = .ok (.irem, 1) := by decide +kernel
theorem dX8_plan_65 : decode cX8_plan 65 = .ok (.iadd, 1) := by decide +kernel
theorem dX8_plan_66 : decode cX8_plan 66 = .ok (.ireturn, 1) := by decide +kernel
theorem dX8_plan_67 : decode cX8_plan 67 = .ok (.iload 4, 2) := by decide +kernel
theorem dX8_plan_69 : decode cX8_plan 69 = .ok (.iload_n 3, 1) := by decide +kernel
theorem dX8_plan_70 : decode cX8_plan 70 = .ok (.idiv, 1) := by decide +kernel
theorem dX8_plan_71 : decode cX8_plan 71 = .ok (.istore 4, 2) := by decide +kernel
theorem dX8_plan_73 : decode cX8_plan 73 = .ok (.iinc 5 (-1), 3) := by decide +kernel
theorem dX8_plan_76 : decode cX8_plan 76 = .ok (.goto (-35), 3) := by decide +kernel
theorem dX8_plan_79 : decode cX8_plan 79 = .ok (.iconst (-1), 1) := by decide +kernel
theorem dX8_plan_80 : decode cX8_plan 80 = .ok (.ireturn, 1) := by decide +kernel
theorem dX8_planned_0 : decode cX8_planned 0 = .ok (.iload_n 1, 1) := by decide +kernel
theorem dX8_planned_1 : decode cX8_planned 1 = .ok (.iconst 0, 1) := by decide +kernel
theorem dX8_planned_2 : decode cX8_planned 2 = .ok (.iconst 1, 1) := by decide +kernel
theorem dX8_planned_3 : decode cX8_planned 3 = .ok (.invokestatic 114, 3) := by decide +kernel
theorem dX8_planned_6 : decode cX8_planned 6 = .ok (.ifCond .eq 11, 3) := by decide +kernel
theorem dX8_planned_9 : decode cX8_planned 9 = .ok (.aload_n 0, 1) := by decide +kernel
theorem dX8_planned_10 : decode cX8_planned 10 = .ok (.invokevirtual 218, 3) := by decide +kernel
theorem dX8_planned_13 : decode cX8_planned 13 = .ok (.iconst (-1), 1) := by decide +kernel
theorem dX8_planned_14 : decode cX8_planned 14 = .ok (.if_icmp .ne 5, 3) := by decide +kernel
theorem dX8_planned_17 : decode cX8_planned 17 = .ok (.iconst (-1), 1) := by decide +kernel
theorem dX8_planned_18 : decode cX8_planned 18 = .ok (.ireturn, 1) := by decide +kernel
theorem dX8_planned_19 : decode cX8_planned 19 = .ok (.iload_n 1, 1) := by decide +kernel
theorem dX8_planned_20 : decode cX8_planned 20 = .ok (.ifCond .ne 10, 3) := by decide +kernel
theorem dX8_planned_23 : decode cX8_planned 23 = .ok (.aload_n 0, 1) := by decide +kernel
theorem dX8_planned_24 : decode cX8_planned 24 = .ok (.getfield 209, 3) := by decide +kernel
theorem dX8_planned_27 : decode cX8_planned 27 = .ok (.goto 7, 3) := by decide +kernel
theorem dX8_planned_30 : decode cX8_planned 30 = .ok (.aload_n 0, 1) := by decide +kernel
theorem dX8_planned_31 : decode cX8_planned 31 = .ok (.getfield 212, 3) := by decide +kernel
theorem dX8_planned_34 : decode cX8_planned 34 = .ok (.ireturn, 1) := by decide +kernel
theorem dX8_isOver_0 : decode cX8_isOver 0 = .ok (.iload_n 1, 1) := by decide +kernel
theorem dX8_isOver_1 : decode cX8_isOver 1 = .ok (.iconst 0, 1) := by decide +kernel
theorem dX8_isOver_2 : decode cX8_isOver 2 = .ok (.aload_n 0, 1) := by decide +kernel
theorem dX8_isOver_3 : decode cX8_isOver 3 = .ok (.getfield 129, 3) := by decide +kernel
theorem dX8_isOver_6 : decode cX8_isOver 6 = .ok (.iconst 1, 1) := by decide +kernel
theorem dX8_isOver_7 : decode cX8_isOver 7 = .ok (.isub, 1) := by decide +kernel
theorem dX8_isOver_8 : decode cX8_isOver 8 = .ok (.invokestatic 114, 3) := by decide +kernel
theorem dX8_isOver_11 : decode cX8_isOver 11 = .ok (.ireturn, 1) := by decide +kernel
theorem dX8_counted_0 : decode cX8_counted 0 = .ok (.aload_n 0, 1) := by decide +kernel
theorem dX8_counted_1 : decode cX8_counted 1 = .ok (.iload_n 1, 1) := by decide +kernel
theorem dX8_counted_2 : decode cX8_counted 2 = .ok (.invokevirtual 145, 3) := by decide +kernel
theorem dX8_counted_5 : decode cX8_counted 5 = .ok (.ifCond .eq 22, 3) := by decide +kernel
theorem dX8_counted_8 : decode cX8_counted 8 = .ok (.aload_n 0, 1) := by decide +kernel
theorem dX8_counted_9 : decode cX8_counted 9 = .ok (.iload_n 2, 1) := by decide +kernel
theorem dX8_counted_10 : decode cX8_counted 10 = .ok (.invokevirtual 222, 3) := by decide +kernel
theorem dX8_counted_13 : decode cX8_counted 13 = .ok (.ifCond .eq 14, 3) := by decide +kernel
theorem dX8_counted_16 : decode cX8_counted 16 = .ok (.iload_n 3, 1) := by decide +kernel
theorem dX8_counted_17 : decode cX8_counted 17 = .ok (.iconst (-1), 1) := by decide +kernel
theorem dX8_counted_18 : decode cX8_counted 18 = .ok (.sipush 5000, 3) := by decide +kernel
theorem dX8_counted_21 : decode cX8_counted 21 = .ok (.invokestatic 114, 3) := by decide +kernel
theorem dX8_counted_24 : decode cX8_counted 24 = .ok (.ifCond .ne 5, 3) := by decide +kernel
theorem dX8_counted_27 : decode cX8_counted 27 = .ok (.iconst 0, 1) := by decide +kernel
theorem dX8_counted_28 : decode cX8_counted 28 = .ok (.ireturn, 1) := by decide +kernel
theorem dX8_counted_29 : decode cX8_counted 29 = .ok (.aload_n 0, 1) := by decide +kernel
theorem dX8_counted_30 : decode cX8_counted 30 = .ok (.getfield 53, 3) := by decide +kernel
theorem dX8_counted_33 : decode cX8_counted 33 = .ok (.sipush 200, 3) := by decide +kernel
theorem dX8_counted_36 : decode cX8_counted 36 = .ok (.iload_n 1, 1) := by decide +kernel
theorem dX8_counted_37 : decode cX8_counted 37 = .ok (.imul, 1) := by decide +kernel
theorem dX8_counted_38 : decode cX8_counted 38 = .ok (.iload_n 2, 1) := by decide +kernel
theorem dX8_counted_39 : decode cX8_counted 39 = .ok (.iadd, 1) := by decide +kernel
theorem dX8_counted_40 : decode cX8_counted 40 = .ok (.iload_n 3, 1) := by decide +kernel
theorem dX8_counted_41 : decode cX8_counted 41 = .ok (.iastore, 1) := by decide +kernel
theorem dX8_counted_42 : decode cX8_counted 42 = .ok (.iconst 1, 1) := by decide +kernel
theorem dX8_counted_43 : decode cX8_counted 43 = .ok (.ireturn, 1) := by decide +kernel
theorem dX8_came_0 : decode cX8_came 0 = .ok (.aload_n 0, 1) := by decide +kernel
theorem dX8_came_1 : decode cX8_came 1 = .ok (.iload_n 1, 1) := by decide +kernel
theorem dX8_came_2 : decode cX8_came 2 = .ok (.invokevirtual 145, 3) := by decide +kernel
theorem dX8_came_5 : decode cX8_came 5 = .ok (.ifCond .eq 34, 3) := by decide +kernel
theorem dX8_came_8 : decode cX8_came 8 = .ok (.aload_n 0, 1) := by decide +kernel
theorem dX8_came_9 : decode cX8_came 9 = .ok (.iload_n 2, 1) := by decide +kernel
theorem dX8_came_10 : decode cX8_came 10 = .ok (.invokevirtual 222, 3) := by decide +kernel
theorem dX8_came_13 : decode cX8_came 13 = .ok (.ifCond .eq 26, 3) := by decide +kernel
theorem dX8_came_16 : decode cX8_came 16 = .ok (.aload_n 0, 1) := by decide +kernel
theorem dX8_came_17 : decode cX8_came 17 = .ok (.iload_n 3, 1) := by decide +kernel
theorem dX8_came_18 : decode cX8_came 18 = .ok (.invokevirtual 222, 3) := by decide +kernel
theorem dX8_came_21 : decode cX8_came 21 = .ok (.ifCond .eq 18, 3) := by decide +kernel
theorem dX8_came_24 : decode cX8_came 24 = .ok (.iload_n 2, 1) := by decide +kernel
theorem dX8_came_25 : decode cX8_came 25 = .ok (.iload_n 3, 1) := by decide +kernel
theorem dX8_came_26 : decode cX8_came 26 = .ok (.if_icmp .gt 13, 3) := by decide +kernel
theorem dX8_came_29 : decode cX8_came 29 = .ok (.iload 4, 2) := by decide +kernel
theorem dX8_came_31 : decode cX8_came 31 = .ok (.iconst 0, 1) := by decide +kernel
theorem dX8_came_32 : decode cX8_came 32 = .ok (.iconst 1, 1) := by decide +kernel
theorem dX8_came_33 : decode cX8_came 33 = .ok (.invokestatic 114, 3) := by decide +kernel
theorem dX8_came_36 : decode cX8_came 36 = .ok (.ifCond .ne 5, 3) := by decide +kernel
theorem dX8_came_39 : decode cX8_came 39 = .ok (.iconst (-1), 1) := by decide +kernel
theorem dX8_came_40 : decode cX8_came 40 = .ok (.ireturn, 1) := by decide +kernel
theorem dX8_came_41 : decode cX8_came 41 = .ok (.iconst 0, 1) := by decide +kernel
theorem dX8_came_42 : decode cX8_came 42 = .ok (.istore 5, 2) := by decide +kernel
theorem dX8_came_44 : decode cX8_came 44 = .ok (.iload_n 2, 1) := by decide +kernel
theorem dX8_came_45 : decode cX8_came 45 = .ok (.istore 6, 2) := by decide +kernel
theorem dX8_came_47 : decode cX8_came 47 = .ok (.iload 6, 2) := by decide +kernel
theorem dX8_came_49 : decode cX8_came 49 = .ok (.iload_n 3, 1) := by decide +kernel
theorem dX8_came_50 : decode cX8_came 50 = .ok (.if_icmp .gt 71, 3) := by decide +kernel
theorem dX8_came_53 : decode cX8_came 53 = .ok (.sipush 200, 3) := by decide +kernel
theorem dX8_came_56 : decode cX8_came 56 = .ok (.iload_n 1, 1) := by decide +kernel
theorem dX8_came_57 : decode cX8_came 57 = .ok (.imul, 1) := by decide +kernel
theorem dX8_came_58 : decode cX8_came 58 = .ok (.iload 6, 2) := by decide +kernel
theorem dX8_came_60 : decode cX8_came 60 = .ok (.iadd, 1) := by decide +kernel
theorem dX8_came_61 : decode cX8_came 61 = .ok (.istore 7, 2) := by decide +kernel
theorem dX8_came_63 : decode cX8_came 63 = .ok (.iload 5, 2) := by decide +kernel
theorem dX8_came_65 : decode cX8_came 65 = .ok (.aload_n 0, 1) := by decide +kernel
theorem dX8_came_66 : decode cX8_came 66 = .ok (.getfield 53, 3) := by decide +kernel
theorem dX8_came_69 : decode cX8_came 69 = .ok (.iload 7, 2) := by decide +kernel
theorem dX8_came_71 : decode cX8_came 71 = .ok (.iaload, 1) := by decide +kernel
theorem dX8_came_72 : decode cX8_came 72 = .ok (.iconst (-1), 1) := by decide +kernel
theorem dX8_came_73 : decode cX8_came 73 = .ok (.if_icmp .eq 13, 3) := by decide +kernel
theorem dX8_came_76 : decode cX8_came 76 = .ok (.aload_n 0, 1) := by decide +kernel
theorem dX8_came_77 : decode cX8_came 77 = .ok (.getfield 53, 3) := by decide +kernel
theorem dX8_came_80 : decode cX8_came 80 = .ok (.iload 7, 2) := by decide +kernel
theorem dX8_came_82 : decode cX8_came 82 = .ok (.iaload, 1) := by decide +kernel
theorem dX8_came_83 : decode cX8_came 83 = .ok (.goto 29, 3) := by decide +kernel
theorem dX8_came_86 : decode cX8_came 86 = .ok (.iload 4, 2) := by decide +kernel
theorem dX8_came_88 : decode cX8_came 88 = .ok (.iconst 1, 1) := by decide +kernel
theorem dX8_came_89 : decode cX8_came 89 = .ok (.if_icmp .ne 22, 3) := by decide +kernel
theorem dX8_came_92 : decode cX8_came 92 = .ok (.aload_n 0, 1) := by decide +kernel
theorem dX8_came_93 : decode cX8_came 93 = .ok (.getfield 59, 3) := by decide +kernel
theorem dX8_came_96 : decode cX8_came 96 = .ok (.iload 7, 2) := by decide +kernel
theorem dX8_came_98 : decode cX8_came 98 = .ok (.baload, 1) := by decide +kernel
theorem dX8_came_99 : decode cX8_came 99 = .ok (.ifCond .ne 12, 3) := by decide +kernel
theorem dX8_came_102 : decode cX8_came 102 = .ok (.aload_n 0, 1) := by decide +kernel
theorem dX8_came_103 : decode cX8_came 103 = .ok (.getfield 26, 3) := by decide +kernel
theorem dX8_came_106 : decode cX8_came 106 = .ok (.iload_n 1, 1) := by decide +kernel
theorem dX8_came_107 : decode cX8_came 107 = .ok (.iaload, 1) := by decide +kernel
theorem dX8_came_108 : decode cX8_came 108 = .ok (.goto 4, 3) := by decide +kernel
theorem dX8_came_111 : decode cX8_came 111 = .ok (.iconst 0, 1) := by decide +kernel
theorem dX8_came_112 : decode cX8_came 112 = .ok (.iadd, 1) := by decide +kernel
theorem dX8_came_113 : decode cX8_came 113 = .ok (.istore 5, 2) := by decide +kernel
theorem dX8_came_115 : decode cX8_came 115 = .ok (.iinc 6 1, 3) := by decide +kernel
theorem dX8_came_118 : decode cX8_came 118 = .ok (.goto (-71), 3) := by decide +kernel
theorem dX8_came_121 : decode cX8_came 121 = .ok (.iload 5, 2) := by decide +kernel
theorem dX8_came_123 : decode cX8_came 123 = .ok (.ireturn, 1) := by decide +kernel
theorem dX8_out_0 : decode cX8_out 0 = .ok (.aload_n 0, 1) := by decide +kernel
theorem dX8_out_1 : decode cX8_out 1 = .ok (.iload_n 1, 1) := by decide +kernel
theorem dX8_out_2 : decode cX8_out 2 = .ok (.invokevirtual 145, 3) := by decide +kernel
theorem dX8_out_5 : decode cX8_out 5 = .ok (.ifCond .eq 26, 3) := by decide +kernel
theorem dX8_out_8 : decode cX8_out 8 = .ok (.aload_n 0, 1) := by decide +kernel
theorem dX8_out_9 : decode cX8_out 9 = .ok (.iload_n 2, 1) := by decide +kernel
theorem dX8_out_10 : decode cX8_out 10 = .ok (.invokevirtual 222, 3) := by decide +kernel
theorem dX8_out_13 : decode cX8_out 13 = .ok (.ifCond .eq 18, 3) := by decide +kernel
theorem dX8_out_16 : decode cX8_out 16 = .ok (.aload_n 0, 1) := by decide +kernel
theorem dX8_out_17 : decode cX8_out 17 = .ok (.getfield 56, 3) := by decide +kernel
theorem dX8_out_20 : decode cX8_out 20 = .ok (.sipush 200, 3) := by decide +kernel
theorem dX8_out_23 : decode cX8_out 23 = .ok (.iload_n 1, 1) := by decide +kernel
theorem dX8_out_24 : decode cX8_out 24 = .ok (.imul, 1) := by decide +kernel
theorem dX8_out_25 : decode cX8_out 25 = .ok (.iload_n 2, 1) := by decide +kernel
theorem dX8_out_26 : decode cX8_out 26 = .ok (.iadd, 1) := by decide +kernel
theorem dX8_out_27 : decode cX8_out 27 = .ok (.iaload, 1) := by decide +kernel
theorem dX8_out_28 : decode cX8_out 28 = .ok (.goto 4, 3) := by decide +kernel
theorem dX8_out_31 : decode cX8_out 31 = .ok (.iconst (-1), 1) := by decide +kernel
theorem dX8_out_32 : decode cX8_out 32 = .ok (.ireturn, 1) := by decide +kernel
theorem dX8_queue_0 : decode cX8_queue 0 = .ok (.aload_n 0, 1) := by decide +kernel
theorem dX8_queue_1 : decode cX8_queue 1 = .ok (.iload_n 1, 1) := by decide +kernel
theorem dX8_queue_2 : decode cX8_queue 2 = .ok (.invokevirtual 145, 3) := by decide +kernel
theorem dX8_queue_5 : decode cX8_queue 5 = .ok (.ifCond .eq 11, 3) := by decide +kernel
theorem dX8_queue_8 : decode cX8_queue 8 = .ok (.aload_n 0, 1) := by decide +kernel
theorem dX8_queue_9 : decode cX8_queue 9 = .ok (.iload_n 1, 1) := by decide +kernel
theorem dX8_queue_10 : decode cX8_queue 10 = .ok (.invokevirtual 164, 3) := by decide +kernel
theorem dX8_queue_13 : decode cX8_queue 13 = .ok (.goto 4, 3) := by decide +kernel
theorem dX8_queue_16 : decode cX8_queue 16 = .ok (.iconst (-1), 1) := by decide +kernel
theorem dX8_queue_17 : decode cX8_queue 17 = .ok (.ireturn, 1) := by decide +kernel
theorem dX8_on_0 : decode cX8_on 0 = .ok (.aload_n 0, 1) := by decide +kernel
theorem dX8_on_1 : decode cX8_on 1 = .ok (.iload_n 1, 1) := by decide +kernel
theorem dX8_on_2 : decode cX8_on 2 = .ok (.invokevirtual 145, 3) := by decide +kernel
theorem dX8_on_5 : decode cX8_on 5 = .ok (.ifCond .eq 14, 3) := by decide +kernel
theorem dX8_on_8 : decode cX8_on 8 = .ok (.aload_n 0, 1) := by decide +kernel
theorem dX8_on_9 : decode cX8_on 9 = .ok (.bipush 16, 2) := by decide +kernel
theorem dX8_on_11 : decode cX8_on 11 = .ok (.iload_n 1, 1) := by decide +kernel
theorem dX8_on_12 : decode cX8_on 12 = .ok (.iadd, 1) := by decide +kernel
theorem dX8_on_13 : decode cX8_on 13 = .ok (.invokevirtual 164, 3) := by decide +kernel
theorem dX8_on_16 : decode cX8_on 16 = .ok (.goto 4, 3) := by decide +kernel
theorem dX8_on_19 : decode cX8_on 19 = .ok (.iconst (-1), 1) := by decide +kernel
theorem dX8_on_20 : decode cX8_on 20 = .ok (.ireturn, 1) := by decide +kernel
theorem dX8_told_0 : decode cX8_told 0 = .ok (.aload_n 0, 1) := by decide +kernel
theorem dX8_told_1 : decode cX8_told 1 = .ok (.iload_n 1, 1) := by decide +kernel
theorem dX8_told_2 : decode cX8_told 2 = .ok (.invokevirtual 142, 3) := by decide +kernel
theorem dX8_told_5 : decode cX8_told 5 = .ok (.ifCond .ne 5, 3) := by decide +kernel
theorem dX8_told_8 : decode cX8_told 8 = .ok (.iconst (-1), 1) := by decide +kernel
theorem dX8_told_9 : decode cX8_told 9 = .ok (.ireturn, 1) := by decide +kernel
theorem dX8_told_10 : decode cX8_told 10 = .ok (.iload_n 2, 1) := by decide +kernel
theorem dX8_told_11 : decode cX8_told 11 = .ok (.tableswitch 79 0 5 #[37, 44, 51, 58, 65, 72], 37) := by decide +kernel
theorem dX8_told_48 : decode cX8_told 48 = .ok (.aload_n 0, 1) := by decide +kernel
theorem dX8_told_49 : decode cX8_told 49 = .ok (.getfield 41, 3) := by decide +kernel
theorem dX8_told_52 : decode cX8_told 52 = .ok (.iload_n 1, 1) := by decide +kernel
theorem dX8_told_53 : decode cX8_told 53 = .ok (.iaload, 1) := by decide +kernel
theorem dX8_told_54 : decode cX8_told 54 = .ok (.ireturn, 1) := by decide +kernel
theorem dX8_told_55 : decode cX8_told 55 = .ok (.aload_n 0, 1) := by decide +kernel
theorem dX8_told_56 : decode cX8_told 56 = .ok (.getfield 44, 3) := by decide +kernel
theorem dX8_told_59 : decode cX8_told 59 = .ok (.iload_n 1, 1) := by decide +kernel
theorem dX8_told_60 : decode cX8_told 60 = .ok (.iaload, 1) := by decide +kernel
theorem dX8_told_61 : decode cX8_told 61 = .ok (.ireturn, 1) := by decide +kernel
theorem dX8_told_62 : decode cX8_told 62 = .ok (.aload_n 0, 1) := by decide +kernel
theorem dX8_told_63 : decode cX8_told 63 = .ok (.getfield 47, 3) := by decide +kernel
theorem dX8_told_66 : decode cX8_told 66 = .ok (.iload_n 1, 1) := by decide +kernel
theorem dX8_told_67 : decode cX8_told 67 = .ok (.iaload, 1) := by decide +kernel
theorem dX8_told_68 : decode cX8_told 68 = .ok (.ireturn, 1) := by decide +kernel
theorem dX8_told_69 : decode cX8_told 69 = .ok (.aload_n 0, 1) := by decide +kernel
theorem dX8_told_70 : decode cX8_told 70 = .ok (.getfield 50, 3) := by decide +kernel
theorem dX8_told_73 : decode cX8_told 73 = .ok (.iload_n 1, 1) := by decide +kernel
theorem dX8_told_74 : decode cX8_told 74 = .ok (.iaload, 1) := by decide +kernel
theorem dX8_told_75 : decode cX8_told 75 = .ok (.ireturn, 1) := by decide +kernel
theorem dX8_told_76 : decode cX8_told 76 = .ok (.aload_n 0, 1) := by decide +kernel
theorem dX8_told_77 : decode cX8_told 77 = .ok (.getfield 84, 3) := by decide +kernel
theorem dX8_told_80 : decode cX8_told 80 = .ok (.iload_n 1, 1) := by decide +kernel
theorem dX8_told_81 : decode cX8_told 81 = .ok (.iaload, 1) := by decide +kernel
theorem dX8_told_82 : decode cX8_told 82 = .ok (.ireturn, 1) := by decide +kernel
theorem dX8_told_83 : decode cX8_told 83 = .ok (.aload_n 0, 1) := by decide +kernel
theorem dX8_told_84 : decode cX8_told 84 = .ok (.getfield 87, 3) := by decide +kernel
theorem dX8_told_87 : decode cX8_told 87 = .ok (.iload_n 1, 1) := by decide +kernel
theorem dX8_told_88 : decode cX8_told 88 = .ok (.iaload, 1) := by decide +kernel
theorem dX8_told_89 : decode cX8_told 89 = .ok (.ireturn, 1) := by decide +kernel
theorem dX8_told_90 : decode cX8_told 90 = .ok (.iconst (-1), 1) := by decide +kernel
theorem dX8_told_91 : decode cX8_told 91 = .ok (.ireturn, 1) := by decide +kernel
theorem dX8_at_0 : decode cX8_at 0 = .ok (.aload_n 0, 1) := by decide +kernel
theorem dX8_at_1 : decode cX8_at 1 = .ok (.iload_n 1, 1) := by decide +kernel
theorem dX8_at_2 : decode cX8_at 2 = .ok (.invokevirtual 125, 3) := by decide +kernel
theorem dX8_at_5 : decode cX8_at 5 = .ok (.ifCond .ne 5, 3) := by decide +kernel
theorem dX8_at_8 : decode cX8_at 8 = .ok (.iconst (-1), 1) := by decide +kernel
theorem dX8_at_9 : decode cX8_at 9 = .ok (.ireturn, 1) := by decide +kernel
theorem dX8_at_10 : decode cX8_at 10 = .ok (.iload_n 2, 1) := by decide +kernel
theorem dX8_at_11 : decode cX8_at 11 = .ok (.tableswitch 45 0 2 #[25, 32, 38], 25) := by decide +kernel
theorem dX8_at_36 : decode cX8_at 36 = .ok (.aload_n 0, 1) := by decide +kernel
theorem dX8_at_37 : decode cX8_at 37 = .ok (.getfield 90, 3) := by decide +kernel
theorem dX8_at_40 : decode cX8_at 40 = .ok (.iload_n 1, 1) := by decide +kernel
theorem dX8_at_41 : decode cX8_at 41 = .ok (.iaload, 1) := by decide +kernel
theorem dX8_at_42 : decode cX8_at 42 = .ok (.ireturn, 1) := by decide +kernel
theorem dX8_at_43 : decode cX8_at 43 = .ok (.aload_n 0, 1) := by decide +kernel
theorem dX8_at_44 : decode cX8_at 44 = .ok (.iload_n 1, 1) := by decide +kernel
theorem dX8_at_45 : decode cX8_at 45 = .ok (.invokevirtual 183, 3) := by decide +kernel
theorem dX8_at_48 : decode cX8_at 48 = .ok (.ireturn, 1) := by decide +kernel
theorem dX8_at_49 : decode cX8_at 49 = .ok (.aload_n 0, 1) := by decide +kernel
theorem dX8_at_50 : decode cX8_at 50 = .ok (.getfield 93, 3) := by decide +kernel
theorem dX8_at_53 : decode cX8_at 53 = .ok (.iload_n 1, 1) := by decide +kernel
theorem dX8_at_54 : decode cX8_at 54 = .ok (.iaload, 1) := by decide +kernel
theorem dX8_at_55 : decode cX8_at 55 = .ok (.ireturn, 1) := by decide +kernel
theorem dX8_at_56 : decode cX8_at 56 = .ok (.iconst (-1), 1) := by decide +kernel
theorem dX8_at_57 : decode cX8_at 57 = .ok (.ireturn, 1) := by decide +kernel
theorem dX8_count_0 : decode cX8_count 0 = .ok (.iconst 0, 1) := by decide +kernel
theorem dX8_count_1 : decode cX8_count 1 = .ok (.istore_n 2, 1) := by decide +kernel
theorem dX8_count_2 : decode cX8_count 2 = .ok (.iload_n 1, 1) := by decide +kernel
theorem dX8_count_3 : decode cX8_count 3 = .ok (.tableswitch 119 0 6 #[41, 46, 51, 56, 61, 88, 114], 41) := by decide +kernel
theorem dX8_count_44 : decode cX8_count 44 = .ok (.aload_n 0, 1) := by decide +kernel
theorem dX8_count_45 : decode cX8_count 45 = .ok (.getfield 129, 3) := by decide +kernel
theorem dX8_count_48 : decode cX8_count 48 = .ok (.ireturn, 1) := by decide +kernel
theorem dX8_count_49 : decode cX8_count 49 = .ok (.aload_n 0, 1) := by decide +kernel
theorem dX8_count_50 : decode cX8_count 50 = .ok (.getfield 111, 3) := by decide +kernel
theorem dX8_count_53 : decode cX8_count 53 = .ok (.ireturn, 1) := by decide +kernel
theorem dX8_count_54 : decode cX8_count 54 = .ok (.aload_n 0, 1) := by decide +kernel
theorem dX8_count_55 : decode cX8_count 55 = .ok (.getfield 118, 3) := by decide +kernel
theorem dX8_count_58 : decode cX8_count 58 = .ok (.ireturn, 1) := by decide +kernel
theorem dX8_count_59 : decode cX8_count 59 = .ok (.aload_n 0, 1) := by decide +kernel
theorem dX8_count_60 : decode cX8_count 60 = .ok (.getfield 121, 3) := by decide +kernel
theorem dX8_count_63 : decode cX8_count 63 = .ok (.ireturn, 1) := by decide +kernel
theorem dX8_count_64 : decode cX8_count 64 = .ok (.iconst 0, 1) := by decide +kernel
theorem dX8_count_65 : decode cX8_count 65 = .ok (.istore_n 3, 1) := by decide +kernel
theorem dX8_count_66 : decode cX8_count 66 = .ok (.iload_n 3, 1) := by decide +kernel
theorem dX8_count_67 : decode cX8_count 67 = .ok (.aload_n 0, 1) := by decide +kernel
theorem dX8_count_68 : decode cX8_count 68 = .ok (.getfield 121, 3) := by decide +kernel
theorem dX8_count_71 : decode cX8_count 71 = .ok (.if_icmp .ge 18, 3) := by decide +kernel
theorem dX8_count_74 : decode cX8_count 74 = .ok (.iload_n 2, 1) := by decide +kernel
theorem dX8_count_75 : decode cX8_count 75 = .ok (.aload_n 0, 1) := by decide +kernel
theorem dX8_count_76 : decode cX8_count 76 = .ok (.getfield 84, 3) := by decide +kernel
theorem dX8_count_79 : decode cX8_count 79 = .ok (.iload_n 3, 1) := by decide +kernel
theorem dX8_count_80 : decode cX8_count 80 = .ok (.iaload, 1) := by decide +kernel
theorem dX8_count_81 : decode cX8_count 81 = .ok (.iadd, 1) := by decide +kernel
theorem dX8_count_82 : decode cX8_count 82 = .ok (.istore_n 2, 1) := by decide +kernel
theorem dX8_count_83 : decode cX8_count 83 = .ok (.iinc 3 1, 3) := by decide +kernel
theorem dX8_count_86 : decode cX8_count 86 = .ok (.goto (-20), 3) := by decide +kernel
theorem dX8_count_89 : decode cX8_count 89 = .ok (.iload_n 2, 1) := by decide +kernel
theorem dX8_count_90 : decode cX8_count 90 = .ok (.ireturn, 1) := by decide +kernel
theorem dX8_count_91 : decode cX8_count 91 = .ok (.iconst 0, 1) := by decide +kernel
theorem dX8_count_92 : decode cX8_count 92 = .ok (.istore_n 3, 1) := by decide +kernel
theorem dX8_count_93 : decode cX8_count 93 = .ok (.iload_n 3, 1) := by decide +kernel
theorem dX8_count_94 : decode cX8_count 94 = .ok (.aload_n 0, 1) := by decide +kernel
theorem dX8_count_95 : decode cX8_count 95 = .ok (.getfield 118, 3) := by decide +kernel
theorem dX8_count_98 : decode cX8_count 98 = .ok (.if_icmp .ge 17, 3) := by decide +kernel
theorem dX8_count_101 : decode cX8_count 101 = .ok (.iload_n 2, 1) := by decide +kernel
theorem dX8_count_102 : decode cX8_count 102 = .ok (.aload_n 0, 1) := by decide +kernel
theorem dX8_count_103 : decode cX8_count 103 = .ok (.iload_n 3, 1) := by decide +kernel
theorem dX8_count_104 : decode cX8_count 104 = .ok (.invokevirtual 164, 3) := by decide +kernel
theorem dX8_count_107 : decode cX8_count 107 = .ok (.iadd, 1) := by decide +kernel
theorem dX8_count_108 : decode cX8_count 108 = .ok (.istore_n 2, 1) := by decide +kernel
theorem dX8_count_109 : decode cX8_count 109 = .ok (.iinc 3 1, 3) := by decide +kernel
theorem dX8_count_112 : decode cX8_count 112 = .ok (.goto (-19), 3) := by decide +kernel
theorem dX8_count_115 : decode cX8_count 115 = .ok (.iload_n 2, 1) := by decide +kernel
theorem dX8_count_116 : decode cX8_count 116 = .ok (.ireturn, 1) := by decide +kernel
theorem dX8_count_117 : decode cX8_count 117 = .ok (.aload_n 0, 1) := by decide +kernel
theorem dX8_count_118 : decode cX8_count 118 = .ok (.getfield 176, 3) := by decide +kernel
theorem dX8_count_121 : decode cX8_count 121 = .ok (.ireturn, 1) := by decide +kernel
theorem dX8_count_122 : decode cX8_count 122 = .ok (.iconst (-1), 1) := by decide +kernel
theorem dX8_count_123 : decode cX8_count 123 = .ok (.ireturn, 1) := by decide +kernel
theorem dJ9_min_7cf53_0 : decode cJ9_min_7cf53 0 = .ok (.iload_n 0, 1) := by decide +kernel
theorem dJ9_min_7cf53_1 : decode cJ9_min_7cf53 1 = .ok (.iload_n 1, 1) := by decide +kernel
theorem dJ9_min_7cf53_2 : decode cJ9_min_7cf53 2 = .ok (.if_icmp .gt 7, 3) := by decide +kernel
theorem dJ9_min_7cf53_5 : decode cJ9_min_7cf53 5 = .ok (.iload_n 0, 1) := by decide +kernel
theorem dJ9_min_7cf53_6 : decode cJ9_min_7cf53 6 = .ok (.goto 4, 3) := by decide +kernel
theorem dJ9_min_7cf53_9 : decode cJ9_min_7cf53 9 = .ok (.iload_n 1, 1) := by decide +kernel
theorem dJ9_min_7cf53_10 : decode cJ9_min_7cf53 10 = .ok (.ireturn, 1) := by decide +kernel
theorem dJ7_fill_53178_0 : decode cJ7_fill_53178 0 = .ok (.iconst 0, 1) := by decide +kernel
theorem dJ7_fill_53178_1 : decode cJ7_fill_53178 1 = .ok (.istore_n 2, 1) := by decide +kernel
theorem dJ7_fill_53178_2 : decode cJ7_fill_53178 2 = .ok (.aload_n 0, 1) := by decide +kernel
theorem dJ7_fill_53178_3 : decode cJ7_fill_53178 3 = .ok (.arraylength, 1) := by decide +kernel
theorem dJ7_fill_53178_4 : decode cJ7_fill_53178 4 = .ok (.istore_n 3, 1) := by decide +kernel
theorem dJ7_fill_53178_5 : decode cJ7_fill_53178 5 = .ok (.iload_n 2, 1) := by decide +kernel
theorem dJ7_fill_53178_6 : decode cJ7_fill_53178 6 = .ok (.iload_n 3, 1) := by decide +kernel
theorem dJ7_fill_53178_7 : decode cJ7_fill_53178 7 = .ok (.if_icmp .ge 13, 3) := by decide +kernel
theorem dJ7_fill_53178_10 : decode cJ7_fill_53178 10 = .ok (.aload_n 0, 1) := by decide +kernel
theorem dJ7_fill_53178_11 : decode cJ7_fill_53178 11 = .ok (.iload_n 2, 1) := by decide +kernel
theorem dJ7_fill_53178_12 : decode cJ7_fill_53178 12 = .ok (.iload_n 1, 1) := by decide +kernel
theorem dJ7_fill_53178_13 : decode cJ7_fill_53178 13 = .ok (.iastore, 1) := by decide +kernel
theorem dJ7_fill_53178_14 : decode cJ7_fill_53178 14 = .ok (.iinc 2 1, 3) := by decide +kernel
theorem dJ7_fill_53178_17 : decode cJ7_fill_53178 17 = .ok (.goto (-12), 3) := by decide +kernel
theorem dJ7_fill_53178_20 : decode cJ7_fill_53178 20 = .ok (.return_, 1) := by decide +kernel
theorem dJ7_copyOf_59c91_0 : decode cJ7_copyOf_59c91 0 = .ok (.iload_n 1, 1) := by decide +kernel
theorem dJ7_copyOf_59c91_1 : decode cJ7_copyOf_59c91 1 = .ok (.aload_n 0, 1) := by decide +kernel
theorem dJ7_copyOf_59c91_2 : decode cJ7_copyOf_59c91 2 = .ok (.arraylength, 1) := by decide +kernel
theorem dJ7_copyOf_59c91_3 : decode cJ7_copyOf_59c91 3 = .ok (.if_icmp .ne 11, 3) := by decide +kernel
theorem dJ7_copyOf_59c91_6 : decode cJ7_copyOf_59c91 6 = .ok (.aload_n 0, 1) := by decide +kernel
theorem dJ7_copyOf_59c91_7 : decode cJ7_copyOf_59c91 7 = .ok (.invokevirtual 316, 3) := by decide +kernel
theorem dJ7_copyOf_59c91_10 : decode cJ7_copyOf_59c91 10 = .ok (.checkcast 317, 3) := by decide +kernel
theorem dJ7_copyOf_59c91_13 : decode cJ7_copyOf_59c91 13 = .ok (.areturn, 1) := by decide +kernel
theorem dJ7_copyOf_59c91_14 : decode cJ7_copyOf_59c91 14 = .ok (.iload_n 1, 1) := by decide +kernel
theorem dJ7_copyOf_59c91_15 : decode cJ7_copyOf_59c91 15 = .ok (.newarray .int, 2) := by decide +kernel
theorem dJ7_copyOf_59c91_17 : decode cJ7_copyOf_59c91 17 = .ok (.astore_n 2, 1) := by decide +kernel
theorem dJ7_copyOf_59c91_18 : decode cJ7_copyOf_59c91 18 = .ok (.aload_n 0, 1) := by decide +kernel
theorem dJ7_copyOf_59c91_19 : decode cJ7_copyOf_59c91 19 = .ok (.iconst 0, 1) := by decide +kernel
theorem dJ7_copyOf_59c91_20 : decode cJ7_copyOf_59c91 20 = .ok (.aload_n 2, 1) := by decide +kernel
theorem dJ7_copyOf_59c91_21 : decode cJ7_copyOf_59c91 21 = .ok (.iconst 0, 1) := by decide +kernel
theorem dJ7_copyOf_59c91_22 : decode cJ7_copyOf_59c91 22 = .ok (.aload_n 0, 1) := by decide +kernel
theorem dJ7_copyOf_59c91_23 : decode cJ7_copyOf_59c91 23 = .ok (.arraylength, 1) := by decide +kernel
theorem dJ7_copyOf_59c91_24 : decode cJ7_copyOf_59c91 24 = .ok (.iload_n 1, 1) := by decide +kernel
theorem dJ7_copyOf_59c91_25 : decode cJ7_copyOf_59c91 25 = .ok (.invokestatic 304, 3) := by decide +kernel
theorem dJ7_copyOf_59c91_28 : decode cJ7_copyOf_59c91 28 = .ok (.invokestatic 150, 3) := by decide +kernel
theorem dJ7_copyOf_59c91_31 : decode cJ7_copyOf_59c91 31 = .ok (.aload_n 2, 1) := by decide +kernel
theorem dJ7_copyOf_59c91_32 : decode cJ7_copyOf_59c91 32 = .ok (.areturn, 1) := by decide +kernel
theorem dL_law_0 : decode cL_law 0 = .ok (.new 7, 3) := by decide +kernel
theorem dL_law_3 : decode cL_law 3 = .ok (.dup, 1) := by decide +kernel
theorem dL_law_4 : decode cL_law 4 = .ok (.invokespecial 9, 3) := by decide +kernel
theorem dL_law_7 : decode cL_law 7 = .ok (.astore_n 1, 1) := by decide +kernel
theorem dL_law_8 : decode cL_law 8 = .ok (.new 10, 3) := by decide +kernel
theorem dL_law_11 : decode cL_law 11 = .ok (.dup, 1) := by decide +kernel
theorem dL_law_12 : decode cL_law 12 = .ok (.invokespecial 12, 3) := by decide +kernel
theorem dL_law_15 : decode cL_law 15 = .ok (.astore_n 2, 1) := by decide +kernel
theorem dL_law_16 : decode cL_law 16 = .ok (.iconst 0, 1) := by decide +kernel
theorem dL_law_17 : decode cL_law 17 = .ok (.istore_n 3, 1) := by decide +kernel
theorem dL_law_18 : decode cL_law 18 = .ok (.iload_n 3, 1) := by decide +kernel
theorem dL_law_19 : decode cL_law 19 = .ok (.aload_n 0, 1) := by decide +kernel
theorem dL_law_20 : decode cL_law 20 = .ok (.arraylength, 1) := by decide +kernel
theorem dL_law_21 : decode cL_law 21 = .ok (.iconst 5, 1) := by decide +kernel
theorem dL_law_22 : decode cL_law 22 = .ok (.isub, 1) := by decide +kernel
theorem dL_law_23 : decode cL_law 23 = .ok (.if_icmp .gt 842, 3) := by decide +kernel
theorem dL_law_26 : decode cL_law 26 = .ok (.aload_n 0, 1) := by decide +kernel
theorem dL_law_27 : decode cL_law 27 = .ok (.iload_n 3, 1) := by decide +kernel
theorem dL_law_28 : decode cL_law 28 = .ok (.iaload, 1) := by decide +kernel
theorem dL_law_29 : decode cL_law 29 = .ok (.bipush 31, 2) := by decide +kernel
theorem dL_law_31 : decode cL_law 31 = .ok (.iand, 1) := by decide +kernel
theorem dL_law_32 : decode cL_law 32 = .ok (.tableswitch 827 0 22 #[108, 141, 164, 187, 220, 273, 306, 349, 372, 405, 448, 471, 494, 517, 540, 563, 586, 609, 652, 705, 738, 771, 804], 108) := by decide +kernel
theorem dL_law_140 : decode cL_law 140 = .ok (.aload_n 1, 1) := by decide +kernel
theorem dL_law_141 : decode cL_law 141 = .ok (.aload_n 0, 1) := by decide +kernel
theorem dL_law_142 : decode cL_law 142 = .ok (.iload_n 3, 1) := by decide +kernel
theorem dL_law_143 : decode cL_law 143 = .ok (.iconst 1, 1) := by decide +kernel
theorem dL_law_144 : decode cL_law 144 = .ok (.iadd, 1) := by decide +kernel
theorem dL_law_145 : decode cL_law 145 = .ok (.iaload, 1) := by decide +kernel
theorem dL_law_146 : decode cL_law 146 = .ok (.aload_n 0, 1) := by decide +kernel
theorem dL_law_147 : decode cL_law 147 = .ok (.iload_n 3, 1) := by decide +kernel
theorem dL_law_148 : decode cL_law 148 = .ok (.iconst 2, 1) := by decide +kernel
theorem dL_law_149 : decode cL_law 149 = .ok (.iadd, 1) := by decide +kernel
theorem dL_law_150 : decode cL_law 150 = .ok (.iaload, 1) := by decide +kernel
theorem dL_law_151 : decode cL_law 151 = .ok (.invokevirtual 13, 3) := by decide +kernel
theorem dL_law_154 : decode cL_law 154 = .ok (.aload_n 2, 1) := by decide +kernel
theorem dL_law_155 : decode cL_law 155 = .ok (.aload_n 0, 1) := by decide +kernel
theorem dL_law_156 : decode cL_law 156 = .ok (.iload_n 3, 1) := by decide +kernel
theorem dL_law_157 : decode cL_law 157 = .ok (.iconst 1, 1) := by decide +kernel
theorem dL_law_158 : decode cL_law 158 = .ok (.iadd, 1) := by decide +kernel
theorem dL_law_159 : decode cL_law 159 = .ok (.iaload, 1) := by decide +kernel
theorem dL_law_160 : decode cL_law 160 = .ok (.aload_n 0, 1) := by decide +kernel
theorem dL_law_161 : decode cL_law 161 = .ok (.iload_n 3, 1) := by decide +kernel
theorem dL_law_162 : decode cL_law 162 = .ok (.iconst 2, 1) := by decide +kernel
theorem dL_law_163 : decode cL_law 163 = .ok (.iadd, 1) := by decide +kernel
theorem dL_law_164 : decode cL_law 164 = .ok (.iaload, 1) := by decide +kernel
theorem dL_law_165 : decode cL_law 165 = .ok (.invokevirtual 17, 3) := by decide +kernel
theorem dL_law_168 : decode cL_law 168 = .ok (.if_icmp .eq 691, 3) := by decide +kernel
theorem dL_law_171 : decode cL_law 171 = .ok (.iconst 0, 1) := by decide +kernel
theorem dL_law_172 : decode cL_law 172 = .ok (.ireturn, 1) := by decide +kernel
theorem dL_law_173 : decode cL_law 173 = .ok (.aload_n 1, 1) := by decide +kernel
theorem dL_law_174 : decode cL_law 174 = .ok (.aload_n 0, 1) := by decide +kernel
theorem dL_law_175 : decode cL_law 175 = .ok (.iload_n 3, 1) := by decide +kernel
theorem dL_law_176 : decode cL_law 176 = .ok (.iconst 1, 1) := by decide +kernel
theorem dL_law_177 : decode cL_law 177 = .ok (.iadd, 1) := by decide +kernel
theorem dL_law_178 : decode cL_law 178 = .ok (.iaload, 1) := by decide +kernel
theorem dL_law_179 : decode cL_law 179 = .ok (.invokevirtual 18, 3) := by decide +kernel
theorem dL_law_182 : decode cL_law 182 = .ok (.aload_n 2, 1) := by decide +kernel
theorem dL_law_183 : decode cL_law 183 = .ok (.aload_n 0, 1) := by decide +kernel
theorem dL_law_184 : decode cL_law 184 = .ok (.iload_n 3, 1) := by decide +kernel
theorem dL_law_185 : decode cL_law 185 = .ok (.iconst 1, 1) := by decide +kernel
theorem dL_law_186 : decode cL_law 186 = .ok (.iadd, 1) := by decide +kernel
theorem dL_law_187 : decode cL_law 187 = .ok (.iaload, 1) := by decide +kernel
theorem dL_law_188 : decode cL_law 188 = .ok (.invokevirtual 22, 3) := by decide +kernel
theorem dL_law_191 : decode cL_law 191 = .ok (.if_icmp .eq 668, 3) := by decide +kernel
theorem dL_law_194 : decode cL_law 194 = .ok (.iconst 0, 1) := by decide +kernel
theorem dL_law_195 : decode cL_law 195 = .ok (.ireturn, 1) := by decide +kernel
theorem dL_law_196 : decode cL_law 196 = .ok (.aload_n 1, 1) := by decide +kernel
theorem dL_law_197 : decode cL_law 197 = .ok (.aload_n 0, 1) := by decide +kernel
theorem dL_law_198 : decode cL_law 198 = .ok (.iload_n 3, 1) := by decide +kernel
theorem dL_law_199 : decode cL_law 199 = .ok (.iconst 1, 1) := by decide +kernel
theorem dL_law_200 : decode cL_law 200 = .ok (.iadd, 1) := by decide +kernel
theorem dL_law_201 : decode cL_law 201 = .ok (.iaload, 1) := by decide +kernel
theorem dL_law_202 : decode cL_law 202 = .ok (.invokevirtual 23, 3) := by decide +kernel
theorem dL_law_205 : decode cL_law 205 = .ok (.aload_n 2, 1) := by decide +kernel
theorem dL_law_206 : decode cL_law 206 = .ok (.aload_n 0, 1) := by decide +kernel
theorem dL_law_207 : decode cL_law 207 = .ok (.iload_n 3, 1) := by decide +kernel
theorem dL_law_208 : decode cL_law 208 = .ok (.iconst 1, 1) := by decide +kernel
theorem dL_law_209 : decode cL_law 209 = .ok (.iadd, 1) := by decide +kernel
theorem dL_law_210 : decode cL_law 210 = .ok (.iaload, 1) := by decide +kernel
theorem dL_law_211 : decode cL_law 211 = .ok (.invokevirtual 27, 3) := by decide +kernel
theorem dL_law_214 : decode cL_law 214 = .ok (.if_icmp .eq 645, 3) := by decide +kernel
theorem dL_law_217 : decode cL_law 217 = .ok (.iconst 0, 1) := by decide +kernel
theorem dL_law_218 : decode cL_law 218 = .ok (.ireturn, 1) := by decide +kernel
theorem dL_law_219 : decode cL_law 219 = .ok (.aload_n 1, 1) := by decide +kernel
theorem dL_law_220 : decode cL_law 220 = .ok (.aload_n 0, 1) := by decide +kernel
theorem dL_law_221 : decode cL_law 221 = .ok (.iload_n 3, 1) := by decide +kernel
theorem dL_law_222 : decode cL_law 222 = .ok (.iconst 1, 1) := by decide +kernel
theorem dL_law_223 : decode cL_law 223 = .ok (.iadd, 1) := by decide +kernel
theorem dL_law_224 : decode cL_law 224 = .ok (.iaload, 1) := by decide +kernel
theorem dL_law_225 : decode cL_law 225 = .ok (.aload_n 0, 1) := by decide +kernel
theorem dL_law_226 : decode cL_law 226 = .ok (.iload_n 3, 1) := by decide +kernel
theorem dL_law_227 : decode cL_law 227 = .ok (.iconst 2, 1) := by decide +kernel
theorem dL_law_228 : decode cL_law 228 = .ok (.iadd, 1) := by decide +kernel
theorem dL_law_229 : decode cL_law 229 = .ok (.iaload, 1) := by decide +kernel
theorem dL_law_230 : decode cL_law 230 = .ok (.invokevirtual 28, 3) := by decide +kernel
theorem dL_law_233 : decode cL_law 233 = .ok (.aload_n 2, 1) := by decide +kernel
theorem dL_law_234 : decode cL_law 234 = .ok (.aload_n 0, 1) := by decide +kernel
theorem dL_law_235 : decode cL_law 235 = .ok (.iload_n 3, 1) := by decide +kernel
theorem dL_law_236 : decode cL_law 236 = .ok (.iconst 1, 1) := by decide +kernel
theorem dL_law_237 : decode cL_law 237 = .ok (.iadd, 1) := by decide +kernel
theorem dL_law_238 : decode cL_law 238 = .ok (.iaload, 1) := by decide +kernel
theorem dL_law_239 : decode cL_law 239 = .ok (.aload_n 0, 1) := by decide +kernel
theorem dL_law_240 : decode cL_law 240 = .ok (.iload_n 3, 1) := by decide +kernel
theorem dL_law_241 : decode cL_law 241 = .ok (.iconst 2, 1) := by decide +kernel
theorem dL_law_242 : decode cL_law 242 = .ok (.iadd, 1) := by decide +kernel
theorem dL_law_243 : decode cL_law 243 = .ok (.iaload, 1) := by decide +kernel
theorem dL_law_244 : decode cL_law 244 = .ok (.invokevirtual 32, 3) := by decide +kernel
theorem dL_law_247 : decode cL_law 247 = .ok (.if_icmp .eq 612, 3) := by decide +kernel
theorem dL_law_250 : decode cL_law 250 = .ok (.iconst 0, 1) := by decide +kernel
theorem dL_law_251 : decode cL_law 251 = .ok (.ireturn, 1) := by decide +kernel
theorem dL_law_252 : decode cL_law 252 = .ok (.aload_n 1, 1) := by decide +kernel
theorem dL_law_253 : decode cL_law 253 = .ok (.aload_n 0, 1) := by decide +kernel
theorem dL_law_254 : decode cL_law 254 = .ok (.iload_n 3, 1) := by decide +kernel
theorem dL_law_255 : decode cL_law 255 = .ok (.iconst 1, 1) := by decide +kernel
theorem dL_law_256 : decode cL_law 256 = .ok (.iadd, 1) := by decide +kernel
theorem dL_law_257 : decode cL_law 257 = .ok (.iaload, 1) := by decide +kernel
theorem dL_law_258 : decode cL_law 258 = .ok (.aload_n 0, 1) := by decide +kernel
theorem dL_law_259 : decode cL_law 259 = .ok (.iload_n 3, 1) := by decide +kernel
theorem dL_law_260 : decode cL_law 260 = .ok (.iconst 2, 1) := by decide +kernel
theorem dL_law_261 : decode cL_law 261 = .ok (.iadd, 1) := by decide +kernel
theorem dL_law_262 : decode cL_law 262 = .ok (.iaload, 1) := by decide +kernel
theorem dL_law_263 : decode cL_law 263 = .ok (.aload_n 0, 1) := by decide +kernel
theorem dL_law_264 : decode cL_law 264 = .ok (.iload_n 3, 1) := by decide +kernel
theorem dL_law_265 : decode cL_law 265 = .ok (.iconst 3, 1) := by decide +kernel
theorem dL_law_266 : decode cL_law 266 = .ok (.iadd, 1) := by decide +kernel
theorem dL_law_267 : decode cL_law 267 = .ok (.iaload, 1) := by decide +kernel
theorem dL_law_268 : decode cL_law 268 = .ok (.aload_n 0, 1) := by decide +kernel
theorem dL_law_269 : decode cL_law 269 = .ok (.iload_n 3, 1) := by decide +kernel
theorem dL_law_270 : decode cL_law 270 = .ok (.iconst 4, 1) := by decide +kernel
theorem dL_law_271 : decode cL_law 271 = .ok (.iadd, 1) := by decide +kernel
theorem dL_law_272 : decode cL_law 272 = .ok (.iaload, 1) := by decide +kernel
theorem dL_law_273 : decode cL_law 273 = .ok (.invokevirtual 33, 3) := by decide +kernel
theorem dL_law_276 : decode cL_law 276 = .ok (.aload_n 2, 1) := by decide +kernel
theorem dL_law_277 : decode cL_law 277 = .ok (.aload_n 0, 1) := by decide +kernel
theorem dL_law_278 : decode cL_law 278 = .ok (.iload_n 3, 1) := by decide +kernel
theorem dL_law_279 : decode cL_law 279 = .ok (.iconst 1, 1) := by decide +kernel
theorem dL_law_280 : decode cL_law 280 = .ok (.iadd, 1) := by decide +kernel
theorem dL_law_281 : decode cL_law 281 = .ok (.iaload, 1) := by decide +kernel
theorem dL_law_282 : decode cL_law 282 = .ok (.aload_n 0, 1) := by decide +kernel
theorem dL_law_283 : decode cL_law 283 = .ok (.iload_n 3, 1) := by decide +kernel
theorem dL_law_284 : decode cL_law 284 = .ok (.iconst 2, 1) := by decide +kernel
theorem dL_law_285 : decode cL_law 285 = .ok (.iadd, 1) := by decide +kernel
theorem dL_law_286 : decode cL_law 286 = .ok (.iaload, 1) := by decide +kernel
theorem dL_law_287 : decode cL_law 287 = .ok (.aload_n 0, 1) := by decide +kernel
theorem dL_law_288 : decode cL_law 288 = .ok (.iload_n 3, 1) := by decide +kernel
theorem dL_law_289 : decode cL_law 289 = .ok (.iconst 3, 1) := by decide +kernel
theorem dL_law_290 : decode cL_law 290 = .ok (.iadd, 1) := by decide +kernel
theorem dL_law_291 : decode cL_law 291 = .ok (.iaload, 1) := by decide +kernel
theorem dL_law_292 : decode cL_law 292 = .ok (.aload_n 0, 1) := by decide +kernel
theorem dL_law_293 : decode cL_law 293 = .ok (.iload_n 3, 1) := by decide +kernel
theorem dL_law_294 : decode cL_law 294 = .ok (.iconst 4, 1) := by decide +kernel
theorem dL_law_295 : decode cL_law 295 = .ok (.iadd, 1) := by decide +kernel
theorem dL_law_296 : decode cL_law 296 = .ok (.iaload, 1) := by decide +kernel
theorem dL_law_297 : decode cL_law 297 = .ok (.invokevirtual 37, 3) := by decide +kernel
theorem dL_law_300 : decode cL_law 300 = .ok (.if_icmp .eq 559, 3) := by decide +kernel
theorem dL_law_303 : decode cL_law 303 = .ok (.iconst 0, 1) := by decide +kernel
theorem dL_law_304 : decode cL_law 304 = .ok (.ireturn, 1) := by decide +kernel
theorem dL_law_305 : decode cL_law 305 = .ok (.aload_n 1, 1) := by decide +kernel
theorem dL_law_306 : decode cL_law 306 = .ok (.aload_n 0, 1) := by decide +kernel
theorem dL_law_307 : decode cL_law 307 = .ok (.iload_n 3, 1) := by decide +kernel
theorem dL_law_308 : decode cL_law 308 = .ok (.iconst 1, 1) := by decide +kernel
theorem dL_law_309 : decode cL_law 309 = .ok (.iadd, 1) := by decide +kernel
theorem dL_law_310 : decode cL_law 310 = .ok (.iaload, 1) := by decide +kernel
theorem dL_law_311 : decode cL_law 311 = .ok (.aload_n 0, 1) := by decide +kernel
theorem dL_law_312 : decode cL_law 312 = .ok (.iload_n 3, 1) := by decide +kernel
theorem dL_law_313 : decode cL_law 313 = .ok (.iconst 2, 1) := by decide +kernel
theorem dL_law_314 : decode cL_law 314 = .ok (.iadd, 1) := by decide +kernel
theorem dL_law_315 : decode cL_law 315 = .ok (.iaload, 1) := by decide +kernel
theorem dL_law_316 : decode cL_law 316 = .ok (.invokevirtual 38, 3) := by decide +kernel
theorem dL_law_319 : decode cL_law 319 = .ok (.aload_n 2, 1) := by decide +kernel
theorem dL_law_320 : decode cL_law 320 = .ok (.aload_n 0, 1) := by decide +kernel
theorem dL_law_321 : decode cL_law 321 = .ok (.iload_n 3, 1) := by decide +kernel
theorem dL_law_322 : decode cL_law 322 = .ok (.iconst 1, 1) := by decide +kernel
theorem dL_law_323 : decode cL_law 323 = .ok (.iadd, 1) := by decide +kernel
theorem dL_law_324 : decode cL_law 324 = .ok (.iaload, 1) := by decide +kernel
theorem dL_law_325 : decode cL_law 325 = .ok (.aload_n 0, 1) := by decide +kernel
theorem dL_law_326 : decode cL_law 326 = .ok (.iload_n 3, 1) := by decide +kernel
theorem dL_law_327 : decode cL_law 327 = .ok (.iconst 2, 1) := by decide +kernel
theorem dL_law_328 : decode cL_law 328 = .ok (.iadd, 1) := by decide +kernel
theorem dL_law_329 : decode cL_law 329 = .ok (.iaload, 1) := by decide +kernel
theorem dL_law_330 : decode cL_law 330 = .ok (.invokevirtual 41, 3) := by decide +kernel
theorem dL_law_333 : decode cL_law 333 = .ok (.if_icmp .eq 526, 3) := by decide +kernel
theorem dL_law_336 : decode cL_law 336 = .ok (.iconst 0, 1) := by decide +kernel
theorem dL_law_337 : decode cL_law 337 = .ok (.ireturn, 1) := by decide +kernel
theorem dL_law_338 : decode cL_law 338 = .ok (.aload_n 1, 1) := by decide +kernel
theorem dL_law_339 : decode cL_law 339 = .ok (.aload_n 0, 1) := by decide +kernel
theorem dL_law_340 : decode cL_law 340 = .ok (.iload_n 3, 1) := by decide +kernel
theorem dL_law_341 : decode cL_law 341 = .ok (.iconst 1, 1) := by decide +kernel
theorem dL_law_342 : decode cL_law 342 = .ok (.iadd, 1) := by decide +kernel
theorem dL_law_343 : decode cL_law 343 = .ok (.iaload, 1) := by decide +kernel
theorem dL_law_344 : decode cL_law 344 = .ok (.aload_n 0, 1) := by decide +kernel
theorem dL_law_345 : decode cL_law 345 = .ok (.iload_n 3, 1) := by decide +kernel
theorem dL_law_346 : decode cL_law 346 = .ok (.iconst 2, 1) := by decide +kernel
theorem dL_law_347 : decode cL_law 347 = .ok (.iadd, 1) := by decide +kernel
theorem dL_law_348 : decode cL_law 348 = .ok (.iaload, 1) := by decide +kernel
theorem dL_law_349 : decode cL_law 349 = .ok (.aload_n 0, 1) := by decide +kernel
theorem dL_law_350 : decode cL_law 350 = .ok (.iload_n 3, 1) := by decide +kernel
theorem dL_law_351 : decode cL_law 351 = .ok (.iconst 3, 1) := by decide +kernel
theorem dL_law_352 : decode cL_law 352 = .ok (.iadd, 1) := by decide +kernel
theorem dL_law_353 : decode cL_law 353 = .ok (.iaload, 1) := by decide +kernel
theorem dL_law_354 : decode cL_law 354 = .ok (.invokevirtual 42, 3) := by decide +kernel
theorem dL_law_357 : decode cL_law 357 = .ok (.aload_n 2, 1) := by decide +kernel
theorem dL_law_358 : decode cL_law 358 = .ok (.aload_n 0, 1) := by decide +kernel
theorem dL_law_359 : decode cL_law 359 = .ok (.iload_n 3, 1) := by decide +kernel
theorem dL_law_360 : decode cL_law 360 = .ok (.iconst 1, 1) := by decide +kernel
theorem dL_law_361 : decode cL_law 361 = .ok (.iadd, 1) := by decide +kernel
theorem dL_law_362 : decode cL_law 362 = .ok (.iaload, 1) := by decide +kernel
theorem dL_law_363 : decode cL_law 363 = .ok (.aload_n 0, 1) := by decide +kernel
theorem dL_law_364 : decode cL_law 364 = .ok (.iload_n 3, 1) := by decide +kernel
theorem dL_law_365 : decode cL_law 365 = .ok (.iconst 2, 1) := by decide +kernel
theorem dL_law_366 : decode cL_law 366 = .ok (.iadd, 1) := by decide +kernel
theorem dL_law_367 : decode cL_law 367 = .ok (.iaload, 1) := by decide +kernel
theorem dL_law_368 : decode cL_law 368 = .ok (.aload_n 0, 1) := by decide +kernel
theorem dL_law_369 : decode cL_law 369 = .ok (.iload_n 3, 1) := by decide +kernel
theorem dL_law_370 : decode cL_law 370 = .ok (.iconst 3, 1) := by decide +kernel
theorem dL_law_371 : decode cL_law 371 = .ok (.iadd, 1) := by decide +kernel
theorem dL_law_372 : decode cL_law 372 = .ok (.iaload, 1) := by decide +kernel
theorem dL_law_373 : decode cL_law 373 = .ok (.invokevirtual 46, 3) := by decide +kernel
theorem dL_law_376 : decode cL_law 376 = .ok (.if_icmp .eq 483, 3) := by decide +kernel
theorem dL_law_379 : decode cL_law 379 = .ok (.iconst 0, 1) := by decide +kernel
theorem dL_law_380 : decode cL_law 380 = .ok (.ireturn, 1) := by decide +kernel
theorem dL_law_381 : decode cL_law 381 = .ok (.aload_n 1, 1) := by decide +kernel
theorem dL_law_382 : decode cL_law 382 = .ok (.aload_n 0, 1) := by decide +kernel
theorem dL_law_383 : decode cL_law 383 = .ok (.iload_n 3, 1) := by decide +kernel
theorem dL_law_384 : decode cL_law 384 = .ok (.iconst 1, 1) := by decide +kernel
theorem dL_law_385 : decode cL_law 385 = .ok (.iadd, 1) := by decide +kernel
theorem dL_law_386 : decode cL_law 386 = .ok (.iaload, 1) := by decide +kernel
theorem dL_law_387 : decode cL_law 387 = .ok (.invokevirtual 47, 3) := by decide +kernel
theorem dL_law_390 : decode cL_law 390 = .ok (.aload_n 2, 1) := by decide +kernel
theorem dL_law_391 : decode cL_law 391 = .ok (.aload_n 0, 1) := by decide +kernel
theorem dL_law_392 : decode cL_law 392 = .ok (.iload_n 3, 1) := by decide +kernel
theorem dL_law_393 : decode cL_law 393 = .ok (.iconst 1, 1) := by decide +kernel
theorem dL_law_394 : decode cL_law 394 = .ok (.iadd, 1) := by decide +kernel
theorem dL_law_395 : decode cL_law 395 = .ok (.iaload, 1) := by decide +kernel
theorem dL_law_396 : decode cL_law 396 = .ok (.invokevirtual 50, 3) := by decide +kernel
theorem dL_law_399 : decode cL_law 399 = .ok (.if_icmp .eq 460, 3) := by decide +kernel
theorem dL_law_402 : decode cL_law 402 = .ok (.iconst 0, 1) := by decide +kernel
theorem dL_law_403 : decode cL_law 403 = .ok (.ireturn, 1) := by decide +kernel
theorem dL_law_404 : decode cL_law 404 = .ok (.aload_n 1, 1) := by decide +kernel
theorem dL_law_405 : decode cL_law 405 = .ok (.aload_n 0, 1) := by decide +kernel
theorem dL_law_406 : decode cL_law 406 = .ok (.iload_n 3, 1) := by decide +kernel
theorem dL_law_407 : decode cL_law 407 = .ok (.iconst 1, 1) := by decide +kernel
theorem dL_law_408 : decode cL_law 408 = .ok (.iadd, 1) := by decide +kernel
theorem dL_law_409 : decode cL_law 409 = .ok (.iaload, 1) := by decide +kernel
theorem dL_law_410 : decode cL_law 410 = .ok (.aload_n 0, 1) := by decide +kernel
theorem dL_law_411 : decode cL_law 411 = .ok (.iload_n 3, 1) := by decide +kernel
theorem dL_law_412 : decode cL_law 412 = .ok (.iconst 2, 1) := by decide +kernel
theorem dL_law_413 : decode cL_law 413 = .ok (.iadd, 1) := by decide +kernel
theorem dL_law_414 : decode cL_law 414 = .ok (.iaload, 1) := by decide +kernel
theorem dL_law_415 : decode cL_law 415 = .ok (.invokevirtual 51, 3) := by decide +kernel
theorem dL_law_418 : decode cL_law 418 = .ok (.aload_n 2, 1) := by decide +kernel
theorem dL_law_419 : decode cL_law 419 = .ok (.aload_n 0, 1) := by decide +kernel
theorem dL_law_420 : decode cL_law 420 = .ok (.iload_n 3, 1) := by decide +kernel
theorem dL_law_421 : decode cL_law 421 = .ok (.iconst 1, 1) := by decide +kernel
theorem dL_law_422 : decode cL_law 422 = .ok (.iadd, 1) := by decide +kernel
theorem dL_law_423 : decode cL_law 423 = .ok (.iaload, 1) := by decide +kernel
theorem dL_law_424 : decode cL_law 424 = .ok (.aload_n 0, 1) := by decide +kernel
theorem dL_law_425 : decode cL_law 425 = .ok (.iload_n 3, 1) := by decide +kernel
theorem dL_law_426 : decode cL_law 426 = .ok (.iconst 2, 1) := by decide +kernel
theorem dL_law_427 : decode cL_law 427 = .ok (.iadd, 1) := by decide +kernel
theorem dL_law_428 : decode cL_law 428 = .ok (.iaload, 1) := by decide +kernel
theorem dL_law_429 : decode cL_law 429 = .ok (.invokevirtual 54, 3) := by decide +kernel
theorem dL_law_432 : decode cL_law 432 = .ok (.if_icmp .eq 427, 3) := by decide +kernel
theorem dL_law_435 : decode cL_law 435 = .ok (.iconst 0, 1) := by decide +kernel
theorem dL_law_436 : decode cL_law 436 = .ok (.ireturn, 1) := by decide +kernel
theorem dL_law_437 : decode cL_law 437 = .ok (.aload_n 1, 1) := by decide +kernel
theorem dL_law_438 : decode cL_law 438 = .ok (.aload_n 0, 1) := by decide +kernel
theorem dL_law_439 : decode cL_law 439 = .ok (.iload_n 3, 1) := by decide +kernel
theorem dL_law_440 : decode cL_law 440 = .ok (.iconst 1, 1) := by decide +kernel
theorem dL_law_441 : decode cL_law 441 = .ok (.iadd, 1) := by decide +kernel
theorem dL_law_442 : decode cL_law 442 = .ok (.iaload, 1) := by decide +kernel
theorem dL_law_443 : decode cL_law 443 = .ok (.aload_n 0, 1) := by decide +kernel
theorem dL_law_444 : decode cL_law 444 = .ok (.iload_n 3, 1) := by decide +kernel
theorem dL_law_445 : decode cL_law 445 = .ok (.iconst 2, 1) := by decide +kernel
theorem dL_law_446 : decode cL_law 446 = .ok (.iadd, 1) := by decide +kernel
theorem dL_law_447 : decode cL_law 447 = .ok (.iaload, 1) := by decide +kernel
theorem dL_law_448 : decode cL_law 448 = .ok (.aload_n 0, 1) := by decide +kernel
theorem dL_law_449 : decode cL_law 449 = .ok (.iload_n 3, 1) := by decide +kernel
theorem dL_law_450 : decode cL_law 450 = .ok (.iconst 3, 1) := by decide +kernel
theorem dL_law_451 : decode cL_law 451 = .ok (.iadd, 1) := by decide +kernel
theorem dL_law_452 : decode cL_law 452 = .ok (.iaload, 1) := by decide +kernel
theorem dL_law_453 : decode cL_law 453 = .ok (.invokevirtual 55, 3) := by decide +kernel
theorem dL_law_456 : decode cL_law 456 = .ok (.aload_n 2, 1) := by decide +kernel
theorem dL_law_457 : decode cL_law 457 = .ok (.aload_n 0, 1) := by decide +kernel
theorem dL_law_458 : decode cL_law 458 = .ok (.iload_n 3, 1) := by decide +kernel
theorem dL_law_459 : decode cL_law 459 = .ok (.iconst 1, 1) := by decide +kernel
theorem dL_law_460 : decode cL_law 460 = .ok (.iadd, 1) := by decide +kernel
theorem dL_law_461 : decode cL_law 461 = .ok (.iaload, 1) := by decide +kernel
theorem dL_law_462 : decode cL_law 462 = .ok (.aload_n 0, 1) := by decide +kernel
theorem dL_law_463 : decode cL_law 463 = .ok (.iload_n 3, 1) := by decide +kernel
theorem dL_law_464 : decode cL_law 464 = .ok (.iconst 2, 1) := by decide +kernel
theorem dL_law_465 : decode cL_law 465 = .ok (.iadd, 1) := by decide +kernel
theorem dL_law_466 : decode cL_law 466 = .ok (.iaload, 1) := by decide +kernel
theorem dL_law_467 : decode cL_law 467 = .ok (.aload_n 0, 1) := by decide +kernel
theorem dL_law_468 : decode cL_law 468 = .ok (.iload_n 3, 1) := by decide +kernel
theorem dL_law_469 : decode cL_law 469 = .ok (.iconst 3, 1) := by decide +kernel
theorem dL_law_470 : decode cL_law 470 = .ok (.iadd, 1) := by decide +kernel
theorem dL_law_471 : decode cL_law 471 = .ok (.iaload, 1) := by decide +kernel
theorem dL_law_472 : decode cL_law 472 = .ok (.invokevirtual 59, 3) := by decide +kernel
theorem dL_law_475 : decode cL_law 475 = .ok (.if_icmp .eq 384, 3) := by decide +kernel
theorem dL_law_478 : decode cL_law 478 = .ok (.iconst 0, 1) := by decide +kernel
theorem dL_law_479 : decode cL_law 479 = .ok (.ireturn, 1) := by decide +kernel
theorem dL_law_480 : decode cL_law 480 = .ok (.aload_n 1, 1) := by decide +kernel
theorem dL_law_481 : decode cL_law 481 = .ok (.aload_n 0, 1) := by decide +kernel
theorem dL_law_482 : decode cL_law 482 = .ok (.iload_n 3, 1) := by decide +kernel
theorem dL_law_483 : decode cL_law 483 = .ok (.iconst 1, 1) := by decide +kernel
theorem dL_law_484 : decode cL_law 484 = .ok (.iadd, 1) := by decide +kernel
theorem dL_law_485 : decode cL_law 485 = .ok (.iaload, 1) := by decide +kernel
theorem dL_law_486 : decode cL_law 486 = .ok (.invokevirtual 60, 3) := by decide +kernel
theorem dL_law_489 : decode cL_law 489 = .ok (.aload_n 2, 1) := by decide +kernel
theorem dL_law_490 : decode cL_law 490 = .ok (.aload_n 0, 1) := by decide +kernel
theorem dL_law_491 : decode cL_law 491 = .ok (.iload_n 3, 1) := by decide +kernel
theorem dL_law_492 : decode cL_law 492 = .ok (.iconst 1, 1) := by decide +kernel
theorem dL_law_493 : decode cL_law 493 = .ok (.iadd, 1) := by decide +kernel
theorem dL_law_494 : decode cL_law 494 = .ok (.iaload, 1) := by decide +kernel
theorem dL_law_495 : decode cL_law 495 = .ok (.invokevirtual 63, 3) := by decide +kernel
theorem dL_law_498 : decode cL_law 498 = .ok (.if_icmp .eq 361, 3) := by decide +kernel
theorem dL_law_501 : decode cL_law 501 = .ok (.iconst 0, 1) := by decide +kernel
theorem dL_law_502 : decode cL_law 502 = .ok (.ireturn, 1) := by decide +kernel
theorem dL_law_503 : decode cL_law 503 = .ok (.aload_n 1, 1) := by decide +kernel
theorem dL_law_504 : decode cL_law 504 = .ok (.aload_n 0, 1) := by decide +kernel
theorem dL_law_505 : decode cL_law 505 = .ok (.iload_n 3, 1) := by decide +kernel
theorem dL_law_506 : decode cL_law 506 = .ok (.iconst 1, 1) := by decide +kernel
theorem dL_law_507 : decode cL_law 507 = .ok (.iadd, 1) := by decide +kernel
theorem dL_law_508 : decode cL_law 508 = .ok (.iaload, 1) := by decide +kernel
theorem dL_law_509 : decode cL_law 509 = .ok (.invokevirtual 64, 3) := by decide +kernel
theorem dL_law_512 : decode cL_law 512 = .ok (.aload_n 2, 1) := by decide +kernel
theorem dL_law_513 : decode cL_law 513 = .ok (.aload_n 0, 1) := by decide +kernel
theorem dL_law_514 : decode cL_law 514 = .ok (.iload_n 3, 1) := by decide +kernel
theorem dL_law_515 : decode cL_law 515 = .ok (.iconst 1, 1) := by decide +kernel
theorem dL_law_516 : decode cL_law 516 = .ok (.iadd, 1) := by decide +kernel
theorem dL_law_517 : decode cL_law 517 = .ok (.iaload, 1) := by decide +kernel
theorem dL_law_518 : decode cL_law 518 = .ok (.invokevirtual 67, 3) := by decide +kernel
theorem dL_law_521 : decode cL_law 521 = .ok (.if_icmp .eq 338, 3) := by decide +kernel
theorem dL_law_524 : decode cL_law 524 = .ok (.iconst 0, 1) := by decide +kernel
theorem dL_law_525 : decode cL_law 525 = .ok (.ireturn, 1) := by decide +kernel
theorem dL_law_526 : decode cL_law 526 = .ok (.aload_n 1, 1) := by decide +kernel
theorem dL_law_527 : decode cL_law 527 = .ok (.aload_n 0, 1) := by decide +kernel
theorem dL_law_528 : decode cL_law 528 = .ok (.iload_n 3, 1) := by decide +kernel
theorem dL_law_529 : decode cL_law 529 = .ok (.iconst 1, 1) := by decide +kernel
theorem dL_law_530 : decode cL_law 530 = .ok (.iadd, 1) := by decide +kernel
theorem dL_law_531 : decode cL_law 531 = .ok (.iaload, 1) := by decide +kernel
theorem dL_law_532 : decode cL_law 532 = .ok (.invokevirtual 68, 3) := by decide +kernel
theorem dL_law_535 : decode cL_law 535 = .ok (.aload_n 2, 1) := by decide +kernel
theorem dL_law_536 : decode cL_law 536 = .ok (.aload_n 0, 1) := by decide +kernel
theorem dL_law_537 : decode cL_law 537 = .ok (.iload_n 3, 1) := by decide +kernel
theorem dL_law_538 : decode cL_law 538 = .ok (.iconst 1, 1) := by decide +kernel
theorem dL_law_539 : decode cL_law 539 = .ok (.iadd, 1) := by decide +kernel
theorem dL_law_540 : decode cL_law 540 = .ok (.iaload, 1) := by decide +kernel
theorem dL_law_541 : decode cL_law 541 = .ok (.invokevirtual 71, 3) := by decide +kernel
theorem dL_law_544 : decode cL_law 544 = .ok (.if_icmp .eq 315, 3) := by decide +kernel
theorem dL_law_547 : decode cL_law 547 = .ok (.iconst 0, 1) := by decide +kernel
theorem dL_law_548 : decode cL_law 548 = .ok (.ireturn, 1) := by decide +kernel
theorem dL_law_549 : decode cL_law 549 = .ok (.aload_n 1, 1) := by decide +kernel
theorem dL_law_550 : decode cL_law 550 = .ok (.aload_n 0, 1) := by decide +kernel
theorem dL_law_551 : decode cL_law 551 = .ok (.iload_n 3, 1) := by decide +kernel
theorem dL_law_552 : decode cL_law 552 = .ok (.iconst 1, 1) := by decide +kernel
theorem dL_law_553 : decode cL_law 553 = .ok (.iadd, 1) := by decide +kernel
theorem dL_law_554 : decode cL_law 554 = .ok (.iaload, 1) := by decide +kernel
theorem dL_law_555 : decode cL_law 555 = .ok (.invokevirtual 72, 3) := by decide +kernel
theorem dL_law_558 : decode cL_law 558 = .ok (.aload_n 2, 1) := by decide +kernel
theorem dL_law_559 : decode cL_law 559 = .ok (.aload_n 0, 1) := by decide +kernel
theorem dL_law_560 : decode cL_law 560 = .ok (.iload_n 3, 1) := by decide +kernel
theorem dL_law_561 : decode cL_law 561 = .ok (.iconst 1, 1) := by decide +kernel
theorem dL_law_562 : decode cL_law 562 = .ok (.iadd, 1) := by decide +kernel
theorem dL_law_563 : decode cL_law 563 = .ok (.iaload, 1) := by decide +kernel
theorem dL_law_564 : decode cL_law 564 = .ok (.invokevirtual 75, 3) := by decide +kernel
theorem dL_law_567 : decode cL_law 567 = .ok (.if_icmp .eq 292, 3) := by decide +kernel
theorem dL_law_570 : decode cL_law 570 = .ok (.iconst 0, 1) := by decide +kernel
theorem dL_law_571 : decode cL_law 571 = .ok (.ireturn, 1) := by decide +kernel
theorem dL_law_572 : decode cL_law 572 = .ok (.aload_n 1, 1) := by decide +kernel
theorem dL_law_573 : decode cL_law 573 = .ok (.aload_n 0, 1) := by decide +kernel
theorem dL_law_574 : decode cL_law 574 = .ok (.iload_n 3, 1) := by decide +kernel
theorem dL_law_575 : decode cL_law 575 = .ok (.iconst 1, 1) := by decide +kernel
theorem dL_law_576 : decode cL_law 576 = .ok (.iadd, 1) := by decide +kernel
theorem dL_law_577 : decode cL_law 577 = .ok (.iaload, 1) := by decide +kernel
theorem dL_law_578 : decode cL_law 578 = .ok (.invokevirtual 76, 3) := by decide +kernel
theorem dL_law_581 : decode cL_law 581 = .ok (.aload_n 2, 1) := by decide +kernel
theorem dL_law_582 : decode cL_law 582 = .ok (.aload_n 0, 1) := by decide +kernel
theorem dL_law_583 : decode cL_law 583 = .ok (.iload_n 3, 1) := by decide +kernel
theorem dL_law_584 : decode cL_law 584 = .ok (.iconst 1, 1) := by decide +kernel
theorem dL_law_585 : decode cL_law 585 = .ok (.iadd, 1) := by decide +kernel
theorem dL_law_586 : decode cL_law 586 = .ok (.iaload, 1) := by decide +kernel
theorem dL_law_587 : decode cL_law 587 = .ok (.invokevirtual 79, 3) := by decide +kernel
theorem dL_law_590 : decode cL_law 590 = .ok (.if_icmp .eq 269, 3) := by decide +kernel
theorem dL_law_593 : decode cL_law 593 = .ok (.iconst 0, 1) := by decide +kernel
theorem dL_law_594 : decode cL_law 594 = .ok (.ireturn, 1) := by decide +kernel
theorem dL_law_595 : decode cL_law 595 = .ok (.aload_n 1, 1) := by decide +kernel
theorem dL_law_596 : decode cL_law 596 = .ok (.aload_n 0, 1) := by decide +kernel
theorem dL_law_597 : decode cL_law 597 = .ok (.iload_n 3, 1) := by decide +kernel
theorem dL_law_598 : decode cL_law 598 = .ok (.iconst 1, 1) := by decide +kernel
theorem dL_law_599 : decode cL_law 599 = .ok (.iadd, 1) := by decide +kernel
theorem dL_law_600 : decode cL_law 600 = .ok (.iaload, 1) := by decide +kernel
theorem dL_law_601 : decode cL_law 601 = .ok (.invokevirtual 80, 3) := by decide +kernel
theorem dL_law_604 : decode cL_law 604 = .ok (.aload_n 2, 1) := by decide +kernel
theorem dL_law_605 : decode cL_law 605 = .ok (.aload_n 0, 1) := by decide +kernel
theorem dL_law_606 : decode cL_law 606 = .ok (.iload_n 3, 1) := by decide +kernel
theorem dL_law_607 : decode cL_law 607 = .ok (.iconst 1, 1) := by decide +kernel
theorem dL_law_608 : decode cL_law 608 = .ok (.iadd, 1) := by decide +kernel
theorem dL_law_609 : decode cL_law 609 = .ok (.iaload, 1) := by decide +kernel
theorem dL_law_610 : decode cL_law 610 = .ok (.invokevirtual 83, 3) := by decide +kernel
theorem dL_law_613 : decode cL_law 613 = .ok (.if_icmp .eq 246, 3) := by decide +kernel
theorem dL_law_616 : decode cL_law 616 = .ok (.iconst 0, 1) := by decide +kernel
theorem dL_law_617 : decode cL_law 617 = .ok (.ireturn, 1) := by decide +kernel
theorem dL_law_618 : decode cL_law 618 = .ok (.aload_n 1, 1) := by decide +kernel
theorem dL_law_619 : decode cL_law 619 = .ok (.aload_n 0, 1) := by decide +kernel
theorem dL_law_620 : decode cL_law 620 = .ok (.iload_n 3, 1) := by decide +kernel
theorem dL_law_621 : decode cL_law 621 = .ok (.iconst 1, 1) := by decide +kernel
theorem dL_law_622 : decode cL_law 622 = .ok (.iadd, 1) := by decide +kernel
theorem dL_law_623 : decode cL_law 623 = .ok (.iaload, 1) := by decide +kernel
theorem dL_law_624 : decode cL_law 624 = .ok (.invokevirtual 84, 3) := by decide +kernel
theorem dL_law_627 : decode cL_law 627 = .ok (.aload_n 2, 1) := by decide +kernel
theorem dL_law_628 : decode cL_law 628 = .ok (.aload_n 0, 1) := by decide +kernel
theorem dL_law_629 : decode cL_law 629 = .ok (.iload_n 3, 1) := by decide +kernel
theorem dL_law_630 : decode cL_law 630 = .ok (.iconst 1, 1) := by decide +kernel
theorem dL_law_631 : decode cL_law 631 = .ok (.iadd, 1) := by decide +kernel
theorem dL_law_632 : decode cL_law 632 = .ok (.iaload, 1) := by decide +kernel
theorem dL_law_633 : decode cL_law 633 = .ok (.invokevirtual 87, 3) := by decide +kernel
theorem dL_law_636 : decode cL_law 636 = .ok (.if_icmp .eq 223, 3) := by decide +kernel
theorem dL_law_639 : decode cL_law 639 = .ok (.iconst 0, 1) := by decide +kernel
theorem dL_law_640 : decode cL_law 640 = .ok (.ireturn, 1) := by decide +kernel
theorem dL_law_641 : decode cL_law 641 = .ok (.aload_n 1, 1) := by decide +kernel
theorem dL_law_642 : decode cL_law 642 = .ok (.aload_n 0, 1) := by decide +kernel
theorem dL_law_643 : decode cL_law 643 = .ok (.iload_n 3, 1) := by decide +kernel
theorem dL_law_644 : decode cL_law 644 = .ok (.iconst 1, 1) := by decide +kernel
theorem dL_law_645 : decode cL_law 645 = .ok (.iadd, 1) := by decide +kernel
theorem dL_law_646 : decode cL_law 646 = .ok (.iaload, 1) := by decide +kernel
theorem dL_law_647 : decode cL_law 647 = .ok (.aload_n 0, 1) := by decide +kernel
theorem dL_law_648 : decode cL_law 648 = .ok (.iload_n 3, 1) := by decide +kernel
theorem dL_law_649 : decode cL_law 649 = .ok (.iconst 2, 1) := by decide +kernel
theorem dL_law_650 : decode cL_law 650 = .ok (.iadd, 1) := by decide +kernel
theorem dL_law_651 : decode cL_law 651 = .ok (.iaload, 1) := by decide +kernel
theorem dL_law_652 : decode cL_law 652 = .ok (.aload_n 0, 1) := by decide +kernel
theorem dL_law_653 : decode cL_law 653 = .ok (.iload_n 3, 1) := by decide +kernel
theorem dL_law_654 : decode cL_law 654 = .ok (.iconst 3, 1) := by decide +kernel
theorem dL_law_655 : decode cL_law 655 = .ok (.iadd, 1) := by decide +kernel
theorem dL_law_656 : decode cL_law 656 = .ok (.iaload, 1) := by decide +kernel
theorem dL_law_657 : decode cL_law 657 = .ok (.invokevirtual 88, 3) := by decide +kernel
theorem dL_law_660 : decode cL_law 660 = .ok (.aload_n 2, 1) := by decide +kernel
theorem dL_law_661 : decode cL_law 661 = .ok (.aload_n 0, 1) := by decide +kernel
theorem dL_law_662 : decode cL_law 662 = .ok (.iload_n 3, 1) := by decide +kernel
theorem dL_law_663 : decode cL_law 663 = .ok (.iconst 1, 1) := by decide +kernel
theorem dL_law_664 : decode cL_law 664 = .ok (.iadd, 1) := by decide +kernel
theorem dL_law_665 : decode cL_law 665 = .ok (.iaload, 1) := by decide +kernel
theorem dL_law_666 : decode cL_law 666 = .ok (.aload_n 0, 1) := by decide +kernel
theorem dL_law_667 : decode cL_law 667 = .ok (.iload_n 3, 1) := by decide +kernel
theorem dL_law_668 : decode cL_law 668 = .ok (.iconst 2, 1) := by decide +kernel
theorem dL_law_669 : decode cL_law 669 = .ok (.iadd, 1) := by decide +kernel
theorem dL_law_670 : decode cL_law 670 = .ok (.iaload, 1) := by decide +kernel
theorem dL_law_671 : decode cL_law 671 = .ok (.aload_n 0, 1) := by decide +kernel
theorem dL_law_672 : decode cL_law 672 = .ok (.iload_n 3, 1) := by decide +kernel
theorem dL_law_673 : decode cL_law 673 = .ok (.iconst 3, 1) := by decide +kernel
theorem dL_law_674 : decode cL_law 674 = .ok (.iadd, 1) := by decide +kernel
theorem dL_law_675 : decode cL_law 675 = .ok (.iaload, 1) := by decide +kernel
theorem dL_law_676 : decode cL_law 676 = .ok (.invokevirtual 91, 3) := by decide +kernel
theorem dL_law_679 : decode cL_law 679 = .ok (.if_icmp .eq 180, 3) := by decide +kernel
theorem dL_law_682 : decode cL_law 682 = .ok (.iconst 0, 1) := by decide +kernel
theorem dL_law_683 : decode cL_law 683 = .ok (.ireturn, 1) := by decide +kernel
theorem dL_law_684 : decode cL_law 684 = .ok (.aload_n 1, 1) := by decide +kernel
theorem dL_law_685 : decode cL_law 685 = .ok (.aload_n 0, 1) := by decide +kernel
theorem dL_law_686 : decode cL_law 686 = .ok (.iload_n 3, 1) := by decide +kernel
theorem dL_law_687 : decode cL_law 687 = .ok (.iconst 1, 1) := by decide +kernel
theorem dL_law_688 : decode cL_law 688 = .ok (.iadd, 1) := by decide +kernel
theorem dL_law_689 : decode cL_law 689 = .ok (.iaload, 1) := by decide +kernel
theorem dL_law_690 : decode cL_law 690 = .ok (.aload_n 0, 1) := by decide +kernel
theorem dL_law_691 : decode cL_law 691 = .ok (.iload_n 3, 1) := by decide +kernel
theorem dL_law_692 : decode cL_law 692 = .ok (.iconst 2, 1) := by decide +kernel
theorem dL_law_693 : decode cL_law 693 = .ok (.iadd, 1) := by decide +kernel
theorem dL_law_694 : decode cL_law 694 = .ok (.iaload, 1) := by decide +kernel
theorem dL_law_695 : decode cL_law 695 = .ok (.aload_n 0, 1) := by decide +kernel
theorem dL_law_696 : decode cL_law 696 = .ok (.iload_n 3, 1) := by decide +kernel
theorem dL_law_697 : decode cL_law 697 = .ok (.iconst 3, 1) := by decide +kernel
theorem dL_law_698 : decode cL_law 698 = .ok (.iadd, 1) := by decide +kernel
theorem dL_law_699 : decode cL_law 699 = .ok (.iaload, 1) := by decide +kernel
theorem dL_law_700 : decode cL_law 700 = .ok (.aload_n 0, 1) := by decide +kernel
theorem dL_law_701 : decode cL_law 701 = .ok (.iload_n 3, 1) := by decide +kernel
theorem dL_law_702 : decode cL_law 702 = .ok (.iconst 4, 1) := by decide +kernel
theorem dL_law_703 : decode cL_law 703 = .ok (.iadd, 1) := by decide +kernel
theorem dL_law_704 : decode cL_law 704 = .ok (.iaload, 1) := by decide +kernel
theorem dL_law_705 : decode cL_law 705 = .ok (.invokevirtual 92, 3) := by decide +kernel
theorem dL_law_708 : decode cL_law 708 = .ok (.aload_n 2, 1) := by decide +kernel
theorem dL_law_709 : decode cL_law 709 = .ok (.aload_n 0, 1) := by decide +kernel
theorem dL_law_710 : decode cL_law 710 = .ok (.iload_n 3, 1) := by decide +kernel
theorem dL_law_711 : decode cL_law 711 = .ok (.iconst 1, 1) := by decide +kernel
theorem dL_law_712 : decode cL_law 712 = .ok (.iadd, 1) := by decide +kernel
theorem dL_law_713 : decode cL_law 713 = .ok (.iaload, 1) := by decide +kernel
theorem dL_law_714 : decode cL_law 714 = .ok (.aload_n 0, 1) := by decide +kernel
theorem dL_law_715 : decode cL_law 715 = .ok (.iload_n 3, 1) := by decide +kernel
theorem dL_law_716 : decode cL_law 716 = .ok (.iconst 2, 1) := by decide +kernel
theorem dL_law_717 : decode cL_law 717 = .ok (.iadd, 1) := by decide +kernel
theorem dL_law_718 : decode cL_law 718 = .ok (.iaload, 1) := by decide +kernel
theorem dL_law_719 : decode cL_law 719 = .ok (.aload_n 0, 1) := by decide +kernel
theorem dL_law_720 : decode cL_law 720 = .ok (.iload_n 3, 1) := by decide +kernel
theorem dL_law_721 : decode cL_law 721 = .ok (.iconst 3, 1) := by decide +kernel
theorem dL_law_722 : decode cL_law 722 = .ok (.iadd, 1) := by decide +kernel
theorem dL_law_723 : decode cL_law 723 = .ok (.iaload, 1) := by decide +kernel
theorem dL_law_724 : decode cL_law 724 = .ok (.aload_n 0, 1) := by decide +kernel
theorem dL_law_725 : decode cL_law 725 = .ok (.iload_n 3, 1) := by decide +kernel
theorem dL_law_726 : decode cL_law 726 = .ok (.iconst 4, 1) := by decide +kernel
theorem dL_law_727 : decode cL_law 727 = .ok (.iadd, 1) := by decide +kernel
theorem dL_law_728 : decode cL_law 728 = .ok (.iaload, 1) := by decide +kernel
theorem dL_law_729 : decode cL_law 729 = .ok (.invokevirtual 95, 3) := by decide +kernel
theorem dL_law_732 : decode cL_law 732 = .ok (.if_icmp .eq 127, 3) := by decide +kernel
theorem dL_law_735 : decode cL_law 735 = .ok (.iconst 0, 1) := by decide +kernel
theorem dL_law_736 : decode cL_law 736 = .ok (.ireturn, 1) := by decide +kernel
theorem dL_law_737 : decode cL_law 737 = .ok (.aload_n 1, 1) := by decide +kernel
theorem dL_law_738 : decode cL_law 738 = .ok (.aload_n 0, 1) := by decide +kernel
theorem dL_law_739 : decode cL_law 739 = .ok (.iload_n 3, 1) := by decide +kernel
theorem dL_law_740 : decode cL_law 740 = .ok (.iconst 1, 1) := by decide +kernel
theorem dL_law_741 : decode cL_law 741 = .ok (.iadd, 1) := by decide +kernel
theorem dL_law_742 : decode cL_law 742 = .ok (.iaload, 1) := by decide +kernel
theorem dL_law_743 : decode cL_law 743 = .ok (.aload_n 0, 1) := by decide +kernel
theorem dL_law_744 : decode cL_law 744 = .ok (.iload_n 3, 1) := by decide +kernel
theorem dL_law_745 : decode cL_law 745 = .ok (.iconst 2, 1) := by decide +kernel
theorem dL_law_746 : decode cL_law 746 = .ok (.iadd, 1) := by decide +kernel
theorem dL_law_747 : decode cL_law 747 = .ok (.iaload, 1) := by decide +kernel
theorem dL_law_748 : decode cL_law 748 = .ok (.invokevirtual 96, 3) := by decide +kernel
theorem dL_law_751 : decode cL_law 751 = .ok (.aload_n 2, 1) := by decide +kernel
theorem dL_law_752 : decode cL_law 752 = .ok (.aload_n 0, 1) := by decide +kernel
theorem dL_law_753 : decode cL_law 753 = .ok (.iload_n 3, 1) := by decide +kernel
theorem dL_law_754 : decode cL_law 754 = .ok (.iconst 1, 1) := by decide +kernel
theorem dL_law_755 : decode cL_law 755 = .ok (.iadd, 1) := by decide +kernel
theorem dL_law_756 : decode cL_law 756 = .ok (.iaload, 1) := by decide +kernel
theorem dL_law_757 : decode cL_law 757 = .ok (.aload_n 0, 1) := by decide +kernel
theorem dL_law_758 : decode cL_law 758 = .ok (.iload_n 3, 1) := by decide +kernel
theorem dL_law_759 : decode cL_law 759 = .ok (.iconst 2, 1) := by decide +kernel
theorem dL_law_760 : decode cL_law 760 = .ok (.iadd, 1) := by decide +kernel
theorem dL_law_761 : decode cL_law 761 = .ok (.iaload, 1) := by decide +kernel
theorem dL_law_762 : decode cL_law 762 = .ok (.invokevirtual 99, 3) := by decide +kernel
theorem dL_law_765 : decode cL_law 765 = .ok (.if_icmp .eq 94, 3) := by decide +kernel
theorem dL_law_768 : decode cL_law 768 = .ok (.iconst 0, 1) := by decide +kernel
theorem dL_law_769 : decode cL_law 769 = .ok (.ireturn, 1) := by decide +kernel
theorem dL_law_770 : decode cL_law 770 = .ok (.aload_n 1, 1) := by decide +kernel
theorem dL_law_771 : decode cL_law 771 = .ok (.aload_n 0, 1) := by decide +kernel
theorem dL_law_772 : decode cL_law 772 = .ok (.iload_n 3, 1) := by decide +kernel
theorem dL_law_773 : decode cL_law 773 = .ok (.iconst 1, 1) := by decide +kernel
theorem dL_law_774 : decode cL_law 774 = .ok (.iadd, 1) := by decide +kernel
theorem dL_law_775 : decode cL_law 775 = .ok (.iaload, 1) := by decide +kernel
theorem dL_law_776 : decode cL_law 776 = .ok (.aload_n 0, 1) := by decide +kernel
theorem dL_law_777 : decode cL_law 777 = .ok (.iload_n 3, 1) := by decide +kernel
theorem dL_law_778 : decode cL_law 778 = .ok (.iconst 2, 1) := by decide +kernel
theorem dL_law_779 : decode cL_law 779 = .ok (.iadd, 1) := by decide +kernel
theorem dL_law_780 : decode cL_law 780 = .ok (.iaload, 1) := by decide +kernel
theorem dL_law_781 : decode cL_law 781 = .ok (.invokevirtual 100, 3) := by decide +kernel
theorem dL_law_784 : decode cL_law 784 = .ok (.aload_n 2, 1) := by decide +kernel
theorem dL_law_785 : decode cL_law 785 = .ok (.aload_n 0, 1) := by decide +kernel
theorem dL_law_786 : decode cL_law 786 = .ok (.iload_n 3, 1) := by decide +kernel
theorem dL_law_787 : decode cL_law 787 = .ok (.iconst 1, 1) := by decide +kernel
theorem dL_law_788 : decode cL_law 788 = .ok (.iadd, 1) := by decide +kernel
theorem dL_law_789 : decode cL_law 789 = .ok (.iaload, 1) := by decide +kernel
theorem dL_law_790 : decode cL_law 790 = .ok (.aload_n 0, 1) := by decide +kernel
theorem dL_law_791 : decode cL_law 791 = .ok (.iload_n 3, 1) := by decide +kernel
theorem dL_law_792 : decode cL_law 792 = .ok (.iconst 2, 1) := by decide +kernel
theorem dL_law_793 : decode cL_law 793 = .ok (.iadd, 1) := by decide +kernel
theorem dL_law_794 : decode cL_law 794 = .ok (.iaload, 1) := by decide +kernel
theorem dL_law_795 : decode cL_law 795 = .ok (.invokevirtual 103, 3) := by decide +kernel
theorem dL_law_798 : decode cL_law 798 = .ok (.if_icmp .eq 61, 3) := by decide +kernel
theorem dL_law_801 : decode cL_law 801 = .ok (.iconst 0, 1) := by decide +kernel
theorem dL_law_802 : decode cL_law 802 = .ok (.ireturn, 1) := by decide +kernel
theorem dL_law_803 : decode cL_law 803 = .ok (.aload_n 1, 1) := by decide +kernel
theorem dL_law_804 : decode cL_law 804 = .ok (.aload_n 0, 1) := by decide +kernel
theorem dL_law_805 : decode cL_law 805 = .ok (.iload_n 3, 1) := by decide +kernel
theorem dL_law_806 : decode cL_law 806 = .ok (.iconst 1, 1) := by decide +kernel
theorem dL_law_807 : decode cL_law 807 = .ok (.iadd, 1) := by decide +kernel
theorem dL_law_808 : decode cL_law 808 = .ok (.iaload, 1) := by decide +kernel
theorem dL_law_809 : decode cL_law 809 = .ok (.aload_n 0, 1) := by decide +kernel
theorem dL_law_810 : decode cL_law 810 = .ok (.iload_n 3, 1) := by decide +kernel
theorem dL_law_811 : decode cL_law 811 = .ok (.iconst 2, 1) := by decide +kernel
theorem dL_law_812 : decode cL_law 812 = .ok (.iadd, 1) := by decide +kernel
theorem dL_law_813 : decode cL_law 813 = .ok (.iaload, 1) := by decide +kernel
theorem dL_law_814 : decode cL_law 814 = .ok (.invokevirtual 104, 3) := by decide +kernel
theorem dL_law_817 : decode cL_law 817 = .ok (.aload_n 2, 1) := by decide +kernel
theorem dL_law_818 : decode cL_law 818 = .ok (.aload_n 0, 1) := by decide +kernel
theorem dL_law_819 : decode cL_law 819 = .ok (.iload_n 3, 1) := by decide +kernel
theorem dL_law_820 : decode cL_law 820 = .ok (.iconst 1, 1) := by decide +kernel
theorem dL_law_821 : decode cL_law 821 = .ok (.iadd, 1) := by decide +kernel
theorem dL_law_822 : decode cL_law 822 = .ok (.iaload, 1) := by decide +kernel
theorem dL_law_823 : decode cL_law 823 = .ok (.aload_n 0, 1) := by decide +kernel
theorem dL_law_824 : decode cL_law 824 = .ok (.iload_n 3, 1) := by decide +kernel
theorem dL_law_825 : decode cL_law 825 = .ok (.iconst 2, 1) := by decide +kernel
theorem dL_law_826 : decode cL_law 826 = .ok (.iadd, 1) := by decide +kernel
theorem dL_law_827 : decode cL_law 827 = .ok (.iaload, 1) := by decide +kernel
theorem dL_law_828 : decode cL_law 828 = .ok (.invokevirtual 107, 3) := by decide +kernel
theorem dL_law_831 : decode cL_law 831 = .ok (.if_icmp .eq 28, 3) := by decide +kernel
theorem dL_law_834 : decode cL_law 834 = .ok (.iconst 0, 1) := by decide +kernel
theorem dL_law_835 : decode cL_law 835 = .ok (.ireturn, 1) := by decide +kernel
theorem dL_law_836 : decode cL_law 836 = .ok (.aload_n 1, 1) := by decide +kernel
theorem dL_law_837 : decode cL_law 837 = .ok (.aload_n 0, 1) := by decide +kernel
theorem dL_law_838 : decode cL_law 838 = .ok (.iload_n 3, 1) := by decide +kernel
theorem dL_law_839 : decode cL_law 839 = .ok (.iconst 1, 1) := by decide +kernel
theorem dL_law_840 : decode cL_law 840 = .ok (.iadd, 1) := by decide +kernel
theorem dL_law_841 : decode cL_law 841 = .ok (.iaload, 1) := by decide +kernel
theorem dL_law_842 : decode cL_law 842 = .ok (.invokevirtual 108, 3) := by decide +kernel
theorem dL_law_845 : decode cL_law 845 = .ok (.aload_n 2, 1) := by decide +kernel
theorem dL_law_846 : decode cL_law 846 = .ok (.aload_n 0, 1) := by decide +kernel
theorem dL_law_847 : decode cL_law 847 = .ok (.iload_n 3, 1) := by decide +kernel
theorem dL_law_848 : decode cL_law 848 = .ok (.iconst 1, 1) := by decide +kernel
theorem dL_law_849 : decode cL_law 849 = .ok (.iadd, 1) := by decide +kernel
theorem dL_law_850 : decode cL_law 850 = .ok (.iaload, 1) := by decide +kernel
theorem dL_law_851 : decode cL_law 851 = .ok (.invokevirtual 111, 3) := by decide +kernel
theorem dL_law_854 : decode cL_law 854 = .ok (.if_icmp .eq 5, 3) := by decide +kernel
theorem dL_law_857 : decode cL_law 857 = .ok (.iconst 0, 1) := by decide +kernel
theorem dL_law_858 : decode cL_law 858 = .ok (.ireturn, 1) := by decide +kernel
theorem dL_law_859 : decode cL_law 859 = .ok (.iinc 3 5, 3) := by decide +kernel
theorem dL_law_862 : decode cL_law 862 = .ok (.goto (-844), 3) := by decide +kernel
theorem dL_law_865 : decode cL_law 865 = .ok (.iconst 1, 1) := by decide +kernel
theorem dL_law_866 : decode cL_law 866 = .ok (.ireturn, 1) := by decide +kernel
