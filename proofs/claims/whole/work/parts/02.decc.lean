theorem dX5_init_0 : decode cX5_init 0 = .ok (.aload_n 0, 1) := by decide +kernel
theorem dX5_init_1 : decode cX5_init 1 = .ok (.invokespecial 1, 3) := by decide +kernel
theorem dX5_init_4 : decode cX5_init 4 = .ok (.aload_n 0, 1) := by decide +kernel
theorem dX5_init_5 : decode cX5_init 5 = .ok (.iconst 3, 1) := by decide +kernel
theorem dX5_init_6 : decode cX5_init 6 = .ok (.newarray .int, 2) := by decide +kernel
theorem dX5_init_8 : decode cX5_init 8 = .ok (.putfield 7, 3) := by decide +kernel
theorem dX5_init_11 : decode cX5_init 11 = .ok (.aload_n 0, 1) := by decide +kernel
theorem dX5_init_12 : decode cX5_init 12 = .ok (.bipush 48, 2) := by decide +kernel
theorem dX5_init_14 : decode cX5_init 14 = .ok (.newarray .int, 2) := by decide +kernel
theorem dX5_init_16 : decode cX5_init 16 = .ok (.putfield 13, 3) := by decide +kernel
theorem dX5_init_19 : decode cX5_init 19 = .ok (.aload_n 0, 1) := by decide +kernel
theorem dX5_init_20 : decode cX5_init 20 = .ok (.bipush 48, 2) := by decide +kernel
theorem dX5_init_22 : decode cX5_init 22 = .ok (.newarray .int, 2) := by decide +kernel
theorem dX5_init_24 : decode cX5_init 24 = .ok (.putfield 16, 3) := by decide +kernel
theorem dX5_init_27 : decode cX5_init 27 = .ok (.aload_n 0, 1) := by decide +kernel
theorem dX5_init_28 : decode cX5_init 28 = .ok (.bipush 48, 2) := by decide +kernel
theorem dX5_init_30 : decode cX5_init 30 = .ok (.newarray .int, 2) := by decide +kernel
theorem dX5_init_32 : decode cX5_init 32 = .ok (.putfield 19, 3) := by decide +kernel
theorem dX5_init_35 : decode cX5_init 35 = .ok (.aload_n 0, 1) := by decide +kernel
theorem dX5_init_36 : decode cX5_init 36 = .ok (.iconst 3, 1) := by decide +kernel
theorem dX5_init_37 : decode cX5_init 37 = .ok (.newarray .boolean, 2) := by decide +kernel
theorem dX5_init_39 : decode cX5_init 39 = .ok (.putfield 22, 3) := by decide +kernel
theorem dX5_init_42 : decode cX5_init 42 = .ok (.aload_n 0, 1) := by decide +kernel
theorem dX5_init_43 : decode cX5_init 43 = .ok (.iconst 3, 1) := by decide +kernel
theorem dX5_init_44 : decode cX5_init 44 = .ok (.newarray .int, 2) := by decide +kernel
theorem dX5_init_46 : decode cX5_init 46 = .ok (.putfield 26, 3) := by decide +kernel
theorem dX5_init_49 : decode cX5_init 49 = .ok (.aload_n 0, 1) := by decide +kernel
theorem dX5_init_50 : decode cX5_init 50 = .ok (.iconst 3, 1) := by decide +kernel
theorem dX5_init_51 : decode cX5_init 51 = .ok (.newarray .int, 2) := by decide +kernel
theorem dX5_init_53 : decode cX5_init 53 = .ok (.putfield 29, 3) := by decide +kernel
theorem dX5_init_56 : decode cX5_init 56 = .ok (.aload_n 0, 1) := by decide +kernel
theorem dX5_init_57 : decode cX5_init 57 = .ok (.iconst 3, 1) := by decide +kernel
theorem dX5_init_58 : decode cX5_init 58 = .ok (.newarray .int, 2) := by decide +kernel
theorem dX5_init_60 : decode cX5_init 60 = .ok (.putfield 32, 3) := by decide +kernel
theorem dX5_init_63 : decode cX5_init 63 = .ok (.aload_n 0, 1) := by decide +kernel
theorem dX5_init_64 : decode cX5_init 64 = .ok (.iconst 3, 1) := by decide +kernel
theorem dX5_init_65 : decode cX5_init 65 = .ok (.newarray .boolean, 2) := by decide +kernel
theorem dX5_init_67 : decode cX5_init 67 = .ok (.putfield 35, 3) := by decide +kernel
theorem dX5_init_70 : decode cX5_init 70 = .ok (.aload_n 0, 1) := by decide +kernel
theorem dX5_init_71 : decode cX5_init 71 = .ok (.iconst 3, 1) := by decide +kernel
theorem dX5_init_72 : decode cX5_init 72 = .ok (.newarray .int, 2) := by decide +kernel
theorem dX5_init_74 : decode cX5_init 74 = .ok (.putfield 38, 3) := by decide +kernel
theorem dX5_init_77 : decode cX5_init 77 = .ok (.aload_n 0, 1) := by decide +kernel
theorem dX5_init_78 : decode cX5_init 78 = .ok (.iconst 3, 1) := by decide +kernel
theorem dX5_init_79 : decode cX5_init 79 = .ok (.newarray .int, 2) := by decide +kernel
theorem dX5_init_81 : decode cX5_init 81 = .ok (.putfield 41, 3) := by decide +kernel
theorem dX5_init_84 : decode cX5_init 84 = .ok (.aload_n 0, 1) := by decide +kernel
theorem dX5_init_85 : decode cX5_init 85 = .ok (.sipush 1536, 3) := by decide +kernel
theorem dX5_init_88 : decode cX5_init 88 = .ok (.newarray .int, 2) := by decide +kernel
theorem dX5_init_90 : decode cX5_init 90 = .ok (.putfield 44, 3) := by decide +kernel
theorem dX5_init_93 : decode cX5_init 93 = .ok (.aload_n 0, 1) := by decide +kernel
theorem dX5_init_94 : decode cX5_init 94 = .ok (.sipush 1536, 3) := by decide +kernel
theorem dX5_init_97 : decode cX5_init 97 = .ok (.newarray .int, 2) := by decide +kernel
theorem dX5_init_99 : decode cX5_init 99 = .ok (.putfield 47, 3) := by decide +kernel
theorem dX5_init_102 : decode cX5_init 102 = .ok (.aload_n 0, 1) := by decide +kernel
theorem dX5_init_103 : decode cX5_init 103 = .ok (.bipush 9, 2) := by decide +kernel
theorem dX5_init_105 : decode cX5_init 105 = .ok (.newarray .int, 2) := by decide +kernel
theorem dX5_init_107 : decode cX5_init 107 = .ok (.putfield 50, 3) := by decide +kernel
theorem dX5_init_110 : decode cX5_init 110 = .ok (.aload_n 0, 1) := by decide +kernel
theorem dX5_init_111 : decode cX5_init 111 = .ok (.bipush 9, 2) := by decide +kernel
theorem dX5_init_113 : decode cX5_init 113 = .ok (.newarray .int, 2) := by decide +kernel
theorem dX5_init_115 : decode cX5_init 115 = .ok (.putfield 53, 3) := by decide +kernel
theorem dX5_init_118 : decode cX5_init 118 = .ok (.aload_n 0, 1) := by decide +kernel
theorem dX5_init_119 : decode cX5_init 119 = .ok (.bipush 72, 2) := by decide +kernel
theorem dX5_init_121 : decode cX5_init 121 = .ok (.newarray .int, 2) := by decide +kernel
theorem dX5_init_123 : decode cX5_init 123 = .ok (.putfield 56, 3) := by decide +kernel
theorem dX5_init_126 : decode cX5_init 126 = .ok (.aload_n 0, 1) := by decide +kernel
theorem dX5_init_127 : decode cX5_init 127 = .ok (.bipush 60, 2) := by decide +kernel
theorem dX5_init_129 : decode cX5_init 129 = .ok (.newarray .int, 2) := by decide +kernel
theorem dX5_init_131 : decode cX5_init 131 = .ok (.putfield 59, 3) := by decide +kernel
theorem dX5_init_134 : decode cX5_init 134 = .ok (.aload_n 0, 1) := by decide +kernel
theorem dX5_init_135 : decode cX5_init 135 = .ok (.bipush 60, 2) := by decide +kernel
theorem dX5_init_137 : decode cX5_init 137 = .ok (.newarray .int, 2) := by decide +kernel
theorem dX5_init_139 : decode cX5_init 139 = .ok (.putfield 62, 3) := by decide +kernel
theorem dX5_init_142 : decode cX5_init 142 = .ok (.aload_n 0, 1) := by decide +kernel
theorem dX5_init_143 : decode cX5_init 143 = .ok (.iconst 3, 1) := by decide +kernel
theorem dX5_init_144 : decode cX5_init 144 = .ok (.newarray .int, 2) := by decide +kernel
theorem dX5_init_146 : decode cX5_init 146 = .ok (.putfield 65, 3) := by decide +kernel
theorem dX5_init_149 : decode cX5_init 149 = .ok (.aload_n 0, 1) := by decide +kernel
theorem dX5_init_150 : decode cX5_init 150 = .ok (.iconst 4, 1) := by decide +kernel
theorem dX5_init_151 : decode cX5_init 151 = .ok (.newarray .int, 2) := by decide +kernel
theorem dX5_init_153 : decode cX5_init 153 = .ok (.putfield 68, 3) := by decide +kernel
theorem dX5_init_156 : decode cX5_init 156 = .ok (.aload_n 0, 1) := by decide +kernel
theorem dX5_init_157 : decode cX5_init 157 = .ok (.iconst 3, 1) := by decide +kernel
theorem dX5_init_158 : decode cX5_init 158 = .ok (.newarray .int, 2) := by decide +kernel
theorem dX5_init_160 : decode cX5_init 160 = .ok (.putfield 71, 3) := by decide +kernel
theorem dX5_init_163 : decode cX5_init 163 = .ok (.return_, 1) := by decide +kernel
theorem dX5_code_0 : decode cX5_code 0 = .ok (.iload_n 1, 1) := by decide +kernel
theorem dX5_code_1 : decode cX5_code 1 = .ok (.invokestatic 74, 3) := by decide +kernel
theorem dX5_code_4 : decode cX5_code 4 = .ok (.ifCond .eq 33, 3) := by decide +kernel
theorem dX5_code_7 : decode cX5_code 7 = .ok (.aload_n 0, 1) := by decide +kernel
theorem dX5_code_8 : decode cX5_code 8 = .ok (.getfield 35, 3) := by decide +kernel
theorem dX5_code_11 : decode cX5_code 11 = .ok (.iload_n 1, 1) := by decide +kernel
theorem dX5_code_12 : decode cX5_code 12 = .ok (.baload, 1) := by decide +kernel
theorem dX5_code_13 : decode cX5_code 13 = .ok (.ifCond .ne 24, 3) := by decide +kernel
theorem dX5_code_16 : decode cX5_code 16 = .ok (.aload_n 0, 1) := by decide +kernel
theorem dX5_code_17 : decode cX5_code 17 = .ok (.getfield 7, 3) := by decide +kernel
theorem dX5_code_20 : decode cX5_code 20 = .ok (.iload_n 1, 1) := by decide +kernel
theorem dX5_code_21 : decode cX5_code 21 = .ok (.iaload, 1) := by decide +kernel
theorem dX5_code_22 : decode cX5_code 22 = .ok (.bipush 16, 2) := by decide +kernel
theorem dX5_code_24 : decode cX5_code 24 = .ok (.if_icmp .eq 13, 3) := by decide +kernel
theorem dX5_code_27 : decode cX5_code 27 = .ok (.iload_n 2, 1) := by decide +kernel
theorem dX5_code_28 : decode cX5_code 28 = .ok (.ifCond .lt 9, 3) := by decide +kernel
theorem dX5_code_31 : decode cX5_code 31 = .ok (.iload_n 2, 1) := by decide +kernel
theorem dX5_code_32 : decode cX5_code 32 = .ok (.bipush 7, 2) := by decide +kernel
theorem dX5_code_34 : decode cX5_code 34 = .ok (.if_icmp .le 5, 3) := by decide +kernel
theorem dX5_code_37 : decode cX5_code 37 = .ok (.iconst 0, 1) := by decide +kernel
theorem dX5_code_38 : decode cX5_code 38 = .ok (.ireturn, 1) := by decide +kernel
theorem dX5_code_39 : decode cX5_code 39 = .ok (.iload_n 2, 1) := by decide +kernel
theorem dX5_code_40 : decode cX5_code 40 = .ok (.iconst 4, 1) := by decide +kernel
theorem dX5_code_41 : decode cX5_code 41 = .ok (.if_icmp .ne 21, 3) := by decide +kernel
theorem dX5_code_44 : decode cX5_code 44 = .ok (.iload_n 3, 1) := by decide +kernel
theorem dX5_code_45 : decode cX5_code 45 = .ok (.ifCond .lt 13, 3) := by decide +kernel
theorem dX5_code_48 : decode cX5_code 48 = .ok (.iload_n 3, 1) := by decide +kernel
theorem dX5_code_49 : decode cX5_code 49 = .ok (.bipush 15, 2) := by decide +kernel
theorem dX5_code_51 : decode cX5_code 51 = .ok (.if_icmp .gt 7, 3) := by decide +kernel
theorem dX5_code_54 : decode cX5_code 54 = .ok (.iconst 1, 1) := by decide +kernel
theorem dX5_code_55 : decode cX5_code 55 = .ok (.goto 24, 3) := by decide +kernel
theorem dX5_code_58 : decode cX5_code 58 = .ok (.iconst 0, 1) := by decide +kernel
theorem dX5_code_59 : decode cX5_code 59 = .ok (.goto 20, 3) := by decide +kernel
theorem dX5_code_62 : decode cX5_code 62 = .ok (.iload_n 2, 1) := by decide +kernel
theorem dX5_code_63 : decode cX5_code 63 = .ok (.iconst 5, 1) := by decide +kernel
theorem dX5_code_64 : decode cX5_code 64 = .ok (.if_icmp .ne 11, 3) := by decide +kernel
theorem dX5_code_67 : decode cX5_code 67 = .ok (.iload_n 1, 1) := by decide +kernel
theorem dX5_code_68 : decode cX5_code 68 = .ok (.iload_n 3, 1) := by decide +kernel
theorem dX5_code_69 : decode cX5_code 69 = .ok (.invokestatic 78, 3) := by decide +kernel
theorem dX5_code_72 : decode cX5_code 72 = .ok (.goto 7, 3) := by decide +kernel
theorem dX5_code_75 : decode cX5_code 75 = .ok (.iload_n 3, 1) := by decide +kernel
theorem dX5_code_76 : decode cX5_code 76 = .ok (.invokestatic 82, 3) := by decide +kernel
theorem dX5_code_79 : decode cX5_code 79 = .ok (.istore 5, 2) := by decide +kernel
theorem dX5_code_81 : decode cX5_code 81 = .ok (.iload 5, 2) := by decide +kernel
theorem dX5_code_83 : decode cX5_code 83 = .ok (.ifCond .eq 18, 3) := by decide +kernel
theorem dX5_code_86 : decode cX5_code 86 = .ok (.iload_n 2, 1) := by decide +kernel
theorem dX5_code_87 : decode cX5_code 87 = .ok (.invokestatic 85, 3) := by decide +kernel
theorem dX5_code_90 : decode cX5_code 90 = .ok (.ifCond .eq 13, 3) := by decide +kernel
theorem dX5_code_93 : decode cX5_code 93 = .ok (.iload 4, 2) := by decide +kernel
theorem dX5_code_95 : decode cX5_code 95 = .ok (.invokestatic 82, 3) := by decide +kernel
theorem dX5_code_98 : decode cX5_code 98 = .ok (.ifCond .ne 5, 3) := by decide +kernel
theorem dX5_code_101 : decode cX5_code 101 = .ok (.iconst 0, 1) := by decide +kernel
theorem dX5_code_102 : decode cX5_code 102 = .ok (.ireturn, 1) := by decide +kernel
theorem dX5_code_103 : decode cX5_code 103 = .ok (.bipush 16, 2) := by decide +kernel
theorem dX5_code_105 : decode cX5_code 105 = .ok (.iload_n 1, 1) := by decide +kernel
theorem dX5_code_106 : decode cX5_code 106 = .ok (.imul, 1) := by decide +kernel
theorem dX5_code_107 : decode cX5_code 107 = .ok (.aload_n 0, 1) := by decide +kernel
theorem dX5_code_108 : decode cX5_code 108 = .ok (.getfield 7, 3) := by decide +kernel
theorem dX5_code_111 : decode cX5_code 111 = .ok (.iload_n 1, 1) := by decide +kernel
theorem dX5_code_112 : decode cX5_code 112 = .ok (.iaload, 1) := by decide +kernel
theorem dX5_code_113 : decode cX5_code 113 = .ok (.iadd, 1) := by decide +kernel
theorem dX5_code_114 : decode cX5_code 114 = .ok (.istore 6, 2) := by decide +kernel
theorem dX5_code_116 : decode cX5_code 116 = .ok (.aload_n 0, 1) := by decide +kernel
theorem dX5_code_117 : decode cX5_code 117 = .ok (.getfield 13, 3) := by decide +kernel
theorem dX5_code_120 : decode cX5_code 120 = .ok (.iload 6, 2) := by decide +kernel
theorem dX5_code_122 : decode cX5_code 122 = .ok (.iload_n 2, 1) := by decide +kernel
theorem dX5_code_123 : decode cX5_code 123 = .ok (.iastore, 1) := by decide +kernel
theorem dX5_code_124 : decode cX5_code 124 = .ok (.aload_n 0, 1) := by decide +kernel
theorem dX5_code_125 : decode cX5_code 125 = .ok (.getfield 16, 3) := by decide +kernel
theorem dX5_code_128 : decode cX5_code 128 = .ok (.iload 6, 2) := by decide +kernel
theorem dX5_code_130 : decode cX5_code 130 = .ok (.iload_n 3, 1) := by decide +kernel
theorem dX5_code_131 : decode cX5_code 131 = .ok (.iastore, 1) := by decide +kernel
theorem dX5_code_132 : decode cX5_code 132 = .ok (.aload_n 0, 1) := by decide +kernel
theorem dX5_code_133 : decode cX5_code 133 = .ok (.getfield 19, 3) := by decide +kernel
theorem dX5_code_136 : decode cX5_code 136 = .ok (.iload 6, 2) := by decide +kernel
theorem dX5_code_138 : decode cX5_code 138 = .ok (.iload 4, 2) := by decide +kernel
theorem dX5_code_140 : decode cX5_code 140 = .ok (.iastore, 1) := by decide +kernel
theorem dX5_code_141 : decode cX5_code 141 = .ok (.aload_n 0, 1) := by decide +kernel
theorem dX5_code_142 : decode cX5_code 142 = .ok (.getfield 7, 3) := by decide +kernel
theorem dX5_code_145 : decode cX5_code 145 = .ok (.iload_n 1, 1) := by decide +kernel
theorem dX5_code_146 : decode cX5_code 146 = .ok (.dup2, 1) := by decide +kernel
theorem dX5_code_147 : decode cX5_code 147 = .ok (.iaload, 1) := by decide +kernel
theorem dX5_code_148 : decode cX5_code 148 = .ok (.iconst 1, 1) := by decide +kernel
theorem dX5_code_149 : decode cX5_code 149 = .ok (.iadd, 1) := by decide +kernel
theorem dX5_code_150 : decode cX5_code 150 = .ok (.iastore, 1) := by decide +kernel
theorem dX5_code_151 : decode cX5_code 151 = .ok (.iconst 1, 1) := by decide +kernel
theorem dX5_code_152 : decode cX5_code 152 = .ok (.ireturn, 1) := by decide +kernel
theorem dX5_isProcess_0 : decode cX5_isProcess 0 = .ok (.iload_n 0, 1) := by decide +kernel
theorem dX5_isProcess_1 : decode cX5_isProcess 1 = .ok (.ifCond .lt 12, 3) := by decide +kernel
theorem dX5_isProcess_4 : decode cX5_isProcess 4 = .ok (.iload_n 0, 1) := by decide +kernel
theorem dX5_isProcess_5 : decode cX5_isProcess 5 = .ok (.iconst 3, 1) := by decide +kernel
theorem dX5_isProcess_6 : decode cX5_isProcess 6 = .ok (.if_icmp .ge 7, 3) := by decide +kernel
theorem dX5_isProcess_9 : decode cX5_isProcess 9 = .ok (.iconst 1, 1) := by decide +kernel
theorem dX5_isProcess_10 : decode cX5_isProcess 10 = .ok (.goto 4, 3) := by decide +kernel
theorem dX5_isProcess_13 : decode cX5_isProcess 13 = .ok (.iconst 0, 1) := by decide +kernel
theorem dX5_isProcess_14 : decode cX5_isProcess 14 = .ok (.ireturn, 1) := by decide +kernel
theorem dX5_isChannel_0 : decode cX5_isChannel 0 = .ok (.iload_n 0, 1) := by decide +kernel
theorem dX5_isChannel_1 : decode cX5_isChannel 1 = .ok (.invokestatic 74, 3) := by decide +kernel
theorem dX5_isChannel_4 : decode cX5_isChannel 4 = .ok (.ifCond .eq 19, 3) := by decide +kernel
theorem dX5_isChannel_7 : decode cX5_isChannel 7 = .ok (.iload_n 1, 1) := by decide +kernel
theorem dX5_isChannel_8 : decode cX5_isChannel 8 = .ok (.invokestatic 74, 3) := by decide +kernel
theorem dX5_isChannel_11 : decode cX5_isChannel 11 = .ok (.ifCond .eq 12, 3) := by decide +kernel
theorem dX5_isChannel_14 : decode cX5_isChannel 14 = .ok (.iload_n 0, 1) := by decide +kernel
theorem dX5_isChannel_15 : decode cX5_isChannel 15 = .ok (.iload_n 1, 1) := by decide +kernel
theorem dX5_isChannel_16 : decode cX5_isChannel 16 = .ok (.if_icmp .eq 7, 3) := by decide +kernel
theorem dX5_isChannel_19 : decode cX5_isChannel 19 = .ok (.iconst 1, 1) := by decide +kernel
theorem dX5_isChannel_20 : decode cX5_isChannel 20 = .ok (.goto 4, 3) := by decide +kernel
theorem dX5_isChannel_23 : decode cX5_isChannel 23 = .ok (.iconst 0, 1) := by decide +kernel
theorem dX5_isChannel_24 : decode cX5_isChannel 24 = .ok (.ireturn, 1) := by decide +kernel
theorem dX5_isRegister_0 : decode cX5_isRegister 0 = .ok (.iload_n 0, 1) := by decide +kernel
theorem dX5_isRegister_1 : decode cX5_isRegister 1 = .ok (.ifCond .lt 12, 3) := by decide +kernel
theorem dX5_isRegister_4 : decode cX5_isRegister 4 = .ok (.iload_n 0, 1) := by decide +kernel
theorem dX5_isRegister_5 : decode cX5_isRegister 5 = .ok (.iconst 4, 1) := by decide +kernel
theorem dX5_isRegister_6 : decode cX5_isRegister 6 = .ok (.if_icmp .ge 7, 3) := by decide +kernel
theorem dX5_isRegister_9 : decode cX5_isRegister 9 = .ok (.iconst 1, 1) := by decide +kernel
theorem dX5_isRegister_10 : decode cX5_isRegister 10 = .ok (.goto 4, 3) := by decide +kernel
theorem dX5_isRegister_13 : decode cX5_isRegister 13 = .ok (.iconst 0, 1) := by decide +kernel
theorem dX5_isRegister_14 : decode cX5_isRegister 14 = .ok (.ireturn, 1) := by decide +kernel
theorem dX5_usesB_0 : decode cX5_usesB 0 = .ok (.iload_n 0, 1) := by decide +kernel
theorem dX5_usesB_1 : decode cX5_usesB 1 = .ok (.iconst 1, 1) := by decide +kernel
theorem dX5_usesB_2 : decode cX5_usesB 2 = .ok (.if_icmp .eq 24, 3) := by decide +kernel
theorem dX5_usesB_5 : decode cX5_usesB 5 = .ok (.iload_n 0, 1) := by decide +kernel
theorem dX5_usesB_6 : decode cX5_usesB 6 = .ok (.iconst 2, 1) := by decide +kernel
theorem dX5_usesB_7 : decode cX5_usesB 7 = .ok (.if_icmp .eq 19, 3) := by decide +kernel
theorem dX5_usesB_10 : decode cX5_usesB 10 = .ok (.iload_n 0, 1) := by decide +kernel
theorem dX5_usesB_11 : decode cX5_usesB 11 = .ok (.iconst 3, 1) := by decide +kernel
theorem dX5_usesB_12 : decode cX5_usesB 12 = .ok (.if_icmp .eq 14, 3) := by decide +kernel
theorem dX5_usesB_15 : decode cX5_usesB 15 = .ok (.iload_n 0, 1) := by decide +kernel
theorem dX5_usesB_16 : decode cX5_usesB 16 = .ok (.iconst 5, 1) := by decide +kernel
theorem dX5_usesB_17 : decode cX5_usesB 17 = .ok (.if_icmp .eq 9, 3) := by decide +kernel
theorem dX5_usesB_20 : decode cX5_usesB 20 = .ok (.iload_n 0, 1) := by decide +kernel
theorem dX5_usesB_21 : decode cX5_usesB 21 = .ok (.bipush 6, 2) := by decide +kernel
theorem dX5_usesB_23 : decode cX5_usesB 23 = .ok (.if_icmp .ne 7, 3) := by decide +kernel
theorem dX5_usesB_26 : decode cX5_usesB 26 = .ok (.iconst 1, 1) := by decide +kernel
theorem dX5_usesB_27 : decode cX5_usesB 27 = .ok (.goto 4, 3) := by decide +kernel
theorem dX5_usesB_30 : decode cX5_usesB 30 = .ok (.iconst 0, 1) := by decide +kernel
theorem dX5_usesB_31 : decode cX5_usesB 31 = .ok (.ireturn, 1) := by decide +kernel
theorem dX5_input_0 : decode cX5_input 0 = .ok (.iload_n 1, 1) := by decide +kernel
theorem dX5_input_1 : decode cX5_input 1 = .ok (.invokestatic 74, 3) := by decide +kernel
theorem dX5_input_4 : decode cX5_input 4 = .ok (.ifCond .ne 5, 3) := by decide +kernel
theorem dX5_input_7 : decode cX5_input 7 = .ok (.iconst (-1), 1) := by decide +kernel
theorem dX5_input_8 : decode cX5_input 8 = .ok (.ireturn, 1) := by decide +kernel
theorem dX5_input_9 : decode cX5_input 9 = .ok (.aload_n 0, 1) := by decide +kernel
theorem dX5_input_10 : decode cX5_input 10 = .ok (.getfield 22, 3) := by decide +kernel
theorem dX5_input_13 : decode cX5_input 13 = .ok (.iload_n 1, 1) := by decide +kernel
theorem dX5_input_14 : decode cX5_input 14 = .ok (.baload, 1) := by decide +kernel
theorem dX5_input_15 : decode cX5_input 15 = .ok (.ifCond .eq 6, 3) := by decide +kernel
theorem dX5_input_18 : decode cX5_input 18 = .ok (.bipush (-2), 2) := by decide +kernel
theorem dX5_input_20 : decode cX5_input 20 = .ok (.ireturn, 1) := by decide +kernel
theorem dX5_input_21 : decode cX5_input 21 = .ok (.aload_n 0, 1) := by decide +kernel
theorem dX5_input_22 : decode cX5_input 22 = .ok (.iload_n 1, 1) := by decide +kernel
theorem dX5_input_23 : decode cX5_input 23 = .ok (.invokevirtual 115, 3) := by decide +kernel
theorem dX5_input_26 : decode cX5_input 26 = .ok (.bipush 20, 2) := by decide +kernel
theorem dX5_input_28 : decode cX5_input 28 = .ok (.if_icmp .ne 8, 3) := by decide +kernel
theorem dX5_input_31 : decode cX5_input 31 = .ok (.bipush (-4), 2) := by decide +kernel
theorem dX5_input_33 : decode cX5_input 33 = .ok (.goto 10, 3) := by decide +kernel
theorem dX5_input_36 : decode cX5_input 36 = .ok (.aload_n 0, 1) := by decide +kernel
theorem dX5_input_37 : decode cX5_input 37 = .ok (.iload_n 1, 1) := by decide +kernel
theorem dX5_input_38 : decode cX5_input 38 = .ok (.iload_n 2, 1) := by decide +kernel
theorem dX5_input_39 : decode cX5_input 39 = .ok (.iconst 3, 1) := by decide +kernel
theorem dX5_input_40 : decode cX5_input 40 = .ok (.invokevirtual 119, 3) := by decide +kernel
theorem dX5_input_43 : decode cX5_input 43 = .ok (.ireturn, 1) := by decide +kernel
theorem dX5_kept0_0 : decode cX5_kept0 0 = .ok (.aload_n 0, 1) := by decide +kernel
theorem dX5_kept0_1 : decode cX5_kept0 1 = .ok (.getfield 41, 3) := by decide +kernel
theorem dX5_kept0_4 : decode cX5_kept0 4 = .ok (.iload_n 1, 1) := by decide +kernel
theorem dX5_kept0_5 : decode cX5_kept0 5 = .ok (.iaload, 1) := by decide +kernel
theorem dX5_kept0_6 : decode cX5_kept0 6 = .ok (.aload_n 0, 1) := by decide +kernel
theorem dX5_kept0_7 : decode cX5_kept0 7 = .ok (.getfield 32, 3) := by decide +kernel
theorem dX5_kept0_10 : decode cX5_kept0 10 = .ok (.iload_n 1, 1) := by decide +kernel
theorem dX5_kept0_11 : decode cX5_kept0 11 = .ok (.iaload, 1) := by decide +kernel
theorem dX5_kept0_12 : decode cX5_kept0 12 = .ok (.isub, 1) := by decide +kernel
theorem dX5_kept0_13 : decode cX5_kept0 13 = .ok (.ireturn, 1) := by decide +kernel
theorem dX5_append_0 : decode cX5_append 0 = .ok (.aload_n 0, 1) := by decide +kernel
theorem dX5_append_1 : decode cX5_append 1 = .ok (.getfield 44, 3) := by decide +kernel
theorem dX5_append_4 : decode cX5_append 4 = .ok (.sipush 512, 3) := by decide +kernel
theorem dX5_append_7 : decode cX5_append 7 = .ok (.iload_n 1, 1) := by decide +kernel
theorem dX5_append_8 : decode cX5_append 8 = .ok (.imul, 1) := by decide +kernel
theorem dX5_append_9 : decode cX5_append 9 = .ok (.aload_n 0, 1) := by decide +kernel
theorem dX5_append_10 : decode cX5_append 10 = .ok (.getfield 41, 3) := by decide +kernel
theorem dX5_append_13 : decode cX5_append 13 = .ok (.iload_n 1, 1) := by decide +kernel
theorem dX5_append_14 : decode cX5_append 14 = .ok (.iaload, 1) := by decide +kernel
theorem dX5_append_15 : decode cX5_append 15 = .ok (.iadd, 1) := by decide +kernel
theorem dX5_append_16 : decode cX5_append 16 = .ok (.iload_n 2, 1) := by decide +kernel
theorem dX5_append_17 : decode cX5_append 17 = .ok (.iastore, 1) := by decide +kernel
theorem dX5_append_18 : decode cX5_append 18 = .ok (.aload_n 0, 1) := by decide +kernel
theorem dX5_append_19 : decode cX5_append 19 = .ok (.getfield 47, 3) := by decide +kernel
theorem dX5_append_22 : decode cX5_append 22 = .ok (.sipush 512, 3) := by decide +kernel
theorem dX5_append_25 : decode cX5_append 25 = .ok (.iload_n 1, 1) := by decide +kernel
theorem dX5_append_26 : decode cX5_append 26 = .ok (.imul, 1) := by decide +kernel
theorem dX5_append_27 : decode cX5_append 27 = .ok (.aload_n 0, 1) := by decide +kernel
theorem dX5_append_28 : decode cX5_append 28 = .ok (.getfield 41, 3) := by decide +kernel
theorem dX5_append_31 : decode cX5_append 31 = .ok (.iload_n 1, 1) := by decide +kernel
theorem dX5_append_32 : decode cX5_append 32 = .ok (.iaload, 1) := by decide +kernel
theorem dX5_append_33 : decode cX5_append 33 = .ok (.iadd, 1) := by decide +kernel
theorem dX5_append_34 : decode cX5_append 34 = .ok (.iload_n 3, 1) := by decide +kernel
theorem dX5_append_35 : decode cX5_append 35 = .ok (.iastore, 1) := by decide +kernel
theorem dX5_append_36 : decode cX5_append 36 = .ok (.aload_n 0, 1) := by decide +kernel
theorem dX5_append_37 : decode cX5_append 37 = .ok (.getfield 41, 3) := by decide +kernel
theorem dX5_append_40 : decode cX5_append 40 = .ok (.iload_n 1, 1) := by decide +kernel
theorem dX5_append_41 : decode cX5_append 41 = .ok (.dup2, 1) := by decide +kernel
theorem dX5_append_42 : decode cX5_append 42 = .ok (.iaload, 1) := by decide +kernel
theorem dX5_append_43 : decode cX5_append 43 = .ok (.iconst 1, 1) := by decide +kernel
theorem dX5_append_44 : decode cX5_append 44 = .ok (.iadd, 1) := by decide +kernel
theorem dX5_append_45 : decode cX5_append 45 = .ok (.iastore, 1) := by decide +kernel
theorem dX5_append_46 : decode cX5_append 46 = .ok (.aload_n 0, 1) := by decide +kernel
theorem dX5_append_47 : decode cX5_append 47 = .ok (.getfield 41, 3) := by decide +kernel
theorem dX5_append_50 : decode cX5_append 50 = .ok (.iload_n 1, 1) := by decide +kernel
theorem dX5_append_51 : decode cX5_append 51 = .ok (.iaload, 1) := by decide +kernel
theorem dX5_append_52 : decode cX5_append 52 = .ok (.ireturn, 1) := by decide +kernel
theorem dX5_deliver_0 : decode cX5_deliver 0 = .ok (.iload_n 1, 1) := by decide +kernel
theorem dX5_deliver_1 : decode cX5_deliver 1 = .ok (.iload_n 2, 1) := by decide +kernel
theorem dX5_deliver_2 : decode cX5_deliver 2 = .ok (.invokestatic 78, 3) := by decide +kernel
theorem dX5_deliver_5 : decode cX5_deliver 5 = .ok (.ifCond .ne 5, 3) := by decide +kernel
theorem dX5_deliver_8 : decode cX5_deliver 8 = .ok (.iconst (-1), 1) := by decide +kernel
theorem dX5_deliver_9 : decode cX5_deliver 9 = .ok (.ireturn, 1) := by decide +kernel
theorem dX5_deliver_10 : decode cX5_deliver 10 = .ok (.aload_n 0, 1) := by decide +kernel
theorem dX5_deliver_11 : decode cX5_deliver 11 = .ok (.getfield 22, 3) := by decide +kernel
theorem dX5_deliver_14 : decode cX5_deliver 14 = .ok (.iload_n 2, 1) := by decide +kernel
theorem dX5_deliver_15 : decode cX5_deliver 15 = .ok (.baload, 1) := by decide +kernel
theorem dX5_deliver_16 : decode cX5_deliver 16 = .ok (.ifCond .eq 6, 3) := by decide +kernel
theorem dX5_deliver_19 : decode cX5_deliver 19 = .ok (.bipush (-2), 2) := by decide +kernel
theorem dX5_deliver_21 : decode cX5_deliver 21 = .ok (.ireturn, 1) := by decide +kernel
theorem dX5_deliver_22 : decode cX5_deliver 22 = .ok (.iconst 3, 1) := by decide +kernel
theorem dX5_deliver_23 : decode cX5_deliver 23 = .ok (.iload_n 1, 1) := by decide +kernel
theorem dX5_deliver_24 : decode cX5_deliver 24 = .ok (.imul, 1) := by decide +kernel
theorem dX5_deliver_25 : decode cX5_deliver 25 = .ok (.iload_n 2, 1) := by decide +kernel
theorem dX5_deliver_26 : decode cX5_deliver 26 = .ok (.iadd, 1) := by decide +kernel
theorem dX5_deliver_27 : decode cX5_deliver 27 = .ok (.istore_n 3, 1) := by decide +kernel
theorem dX5_deliver_28 : decode cX5_deliver 28 = .ok (.aload_n 0, 1) := by decide +kernel
theorem dX5_deliver_29 : decode cX5_deliver 29 = .ok (.getfield 53, 3) := by decide +kernel
theorem dX5_deliver_32 : decode cX5_deliver 32 = .ok (.iload_n 3, 1) := by decide +kernel
theorem dX5_deliver_33 : decode cX5_deliver 33 = .ok (.iaload, 1) := by decide +kernel
theorem dX5_deliver_34 : decode cX5_deliver 34 = .ok (.aload_n 0, 1) := by decide +kernel
theorem dX5_deliver_35 : decode cX5_deliver 35 = .ok (.getfield 50, 3) := by decide +kernel
theorem dX5_deliver_38 : decode cX5_deliver 38 = .ok (.iload_n 3, 1) := by decide +kernel
theorem dX5_deliver_39 : decode cX5_deliver 39 = .ok (.iaload, 1) := by decide +kernel
theorem dX5_deliver_40 : decode cX5_deliver 40 = .ok (.if_icmp .ne 6, 3) := by decide +kernel
theorem dX5_deliver_43 : decode cX5_deliver 43 = .ok (.bipush (-3), 2) := by decide +kernel
theorem dX5_deliver_45 : decode cX5_deliver 45 = .ok (.ireturn, 1) := by decide +kernel
theorem dX5_deliver_46 : decode cX5_deliver 46 = .ok (.aload_n 0, 1) := by decide +kernel
theorem dX5_deliver_47 : decode cX5_deliver 47 = .ok (.iload_n 2, 1) := by decide +kernel
theorem dX5_deliver_48 : decode cX5_deliver 48 = .ok (.invokevirtual 115, 3) := by decide +kernel
theorem dX5_deliver_51 : decode cX5_deliver 51 = .ok (.bipush 20, 2) := by decide +kernel
theorem dX5_deliver_53 : decode cX5_deliver 53 = .ok (.if_icmp .ne 6, 3) := by decide +kernel
theorem dX5_deliver_56 : decode cX5_deliver 56 = .ok (.bipush (-4), 2) := by decide +kernel
theorem dX5_deliver_58 : decode cX5_deliver 58 = .ok (.ireturn, 1) := by decide +kernel
theorem dX5_deliver_59 : decode cX5_deliver 59 = .ok (.aload_n 0, 1) := by decide +kernel
theorem dX5_deliver_60 : decode cX5_deliver 60 = .ok (.getfield 56, 3) := by decide +kernel
theorem dX5_deliver_63 : decode cX5_deliver 63 = .ok (.bipush 8, 2) := by decide +kernel
theorem dX5_deliver_65 : decode cX5_deliver 65 = .ok (.iload_n 3, 1) := by decide +kernel
theorem dX5_deliver_66 : decode cX5_deliver 66 = .ok (.imul, 1) := by decide +kernel
theorem dX5_deliver_67 : decode cX5_deliver 67 = .ok (.aload_n 0, 1) := by decide +kernel
theorem dX5_deliver_68 : decode cX5_deliver 68 = .ok (.getfield 53, 3) := by decide +kernel
theorem dX5_deliver_71 : decode cX5_deliver 71 = .ok (.iload_n 3, 1) := by decide +kernel
theorem dX5_deliver_72 : decode cX5_deliver 72 = .ok (.iaload, 1) := by decide +kernel
theorem dX5_deliver_73 : decode cX5_deliver 73 = .ok (.bipush 8, 2) := by decide +kernel
theorem dX5_deliver_75 : decode cX5_deliver 75 = .ok (.irem, 1) := by decide +kernel
theorem dX5_deliver_76 : decode cX5_deliver 76 = .ok (.iadd, 1) := by decide +kernel
theorem dX5_deliver_77 : decode cX5_deliver 77 = .ok (.iaload, 1) := by decide +kernel
theorem dX5_deliver_78 : decode cX5_deliver 78 = .ok (.istore 4, 2) := by decide +kernel
theorem dX5_deliver_80 : decode cX5_deliver 80 = .ok (.aload_n 0, 1) := by decide +kernel
theorem dX5_deliver_81 : decode cX5_deliver 81 = .ok (.getfield 53, 3) := by decide +kernel
theorem dX5_deliver_84 : decode cX5_deliver 84 = .ok (.iload_n 3, 1) := by decide +kernel
theorem dX5_deliver_85 : decode cX5_deliver 85 = .ok (.dup2, 1) := by decide +kernel
theorem dX5_deliver_86 : decode cX5_deliver 86 = .ok (.iaload, 1) := by decide +kernel
theorem dX5_deliver_87 : decode cX5_deliver 87 = .ok (.iconst 1, 1) := by decide +kernel
theorem dX5_deliver_88 : decode cX5_deliver 88 = .ok (.iadd, 1) := by decide +kernel
theorem dX5_deliver_89 : decode cX5_deliver 89 = .ok (.iastore, 1) := by decide +kernel
theorem dX5_deliver_90 : decode cX5_deliver 90 = .ok (.aload_n 0, 1) := by decide +kernel
theorem dX5_deliver_91 : decode cX5_deliver 91 = .ok (.iload_n 2, 1) := by decide +kernel
theorem dX5_deliver_92 : decode cX5_deliver 92 = .ok (.iload 4, 2) := by decide +kernel
theorem dX5_deliver_94 : decode cX5_deliver 94 = .ok (.iload_n 1, 1) := by decide +kernel
theorem dX5_deliver_95 : decode cX5_deliver 95 = .ok (.invokevirtual 119, 3) := by decide +kernel
theorem dX5_deliver_98 : decode cX5_deliver 98 = .ok (.ireturn, 1) := by decide +kernel
theorem dX5_step_0 : decode cX5_step 0 = .ok (.iload_n 1, 1) := by decide +kernel
theorem dX5_step_1 : decode cX5_step 1 = .ok (.invokestatic 74, 3) := by decide +kernel
theorem dX5_step_4 : decode cX5_step 4 = .ok (.ifCond .ne 5, 3) := by decide +kernel
theorem dX5_step_7 : decode cX5_step 7 = .ok (.iconst (-1), 1) := by decide +kernel
theorem dX5_step_8 : decode cX5_step 8 = .ok (.ireturn, 1) := by decide +kernel
theorem dX5_step_9 : decode cX5_step 9 = .ok (.aload_n 0, 1) := by decide +kernel
theorem dX5_step_10 : decode cX5_step 10 = .ok (.getfield 22, 3) := by decide +kernel
theorem dX5_step_13 : decode cX5_step 13 = .ok (.iload_n 1, 1) := by decide +kernel
theorem dX5_step_14 : decode cX5_step 14 = .ok (.baload, 1) := by decide +kernel
theorem dX5_step_15 : decode cX5_step 15 = .ok (.ifCond .eq 6, 3) := by decide +kernel
theorem dX5_step_18 : decode cX5_step 18 = .ok (.bipush (-2), 2) := by decide +kernel
theorem dX5_step_20 : decode cX5_step 20 = .ok (.ireturn, 1) := by decide +kernel
theorem dX5_step_21 : decode cX5_step 21 = .ok (.aload_n 0, 1) := by decide +kernel
theorem dX5_step_22 : decode cX5_step 22 = .ok (.iload_n 1, 1) := by decide +kernel
theorem dX5_step_23 : decode cX5_step 23 = .ok (.invokevirtual 123, 3) := by decide +kernel
theorem dX5_step_26 : decode cX5_step 26 = .ok (.aload_n 0, 1) := by decide +kernel
theorem dX5_step_27 : decode cX5_step 27 = .ok (.iload_n 1, 1) := by decide +kernel
theorem dX5_step_28 : decode cX5_step 28 = .ok (.iconst 0, 1) := by decide +kernel
theorem dX5_step_29 : decode cX5_step 29 = .ok (.invokevirtual 111, 3) := by decide +kernel
theorem dX5_step_32 : decode cX5_step 32 = .ok (.istore_n 2, 1) := by decide +kernel
theorem dX5_step_33 : decode cX5_step 33 = .ok (.iload_n 2, 1) := by decide +kernel
theorem dX5_step_34 : decode cX5_step 34 = .ok (.iconst 1, 1) := by decide +kernel
theorem dX5_step_35 : decode cX5_step 35 = .ok (.if_icmp .ne 20, 3) := by decide +kernel
theorem dX5_step_38 : decode cX5_step 38 = .ok (.aload_n 0, 1) := by decide +kernel
theorem dX5_step_39 : decode cX5_step 39 = .ok (.getfield 26, 3) := by decide +kernel
theorem dX5_step_42 : decode cX5_step 42 = .ok (.iload_n 1, 1) := by decide +kernel
theorem dX5_step_43 : decode cX5_step 43 = .ok (.dup2, 1) := by decide +kernel
theorem dX5_step_44 : decode cX5_step 44 = .ok (.iaload, 1) := by decide +kernel
theorem dX5_step_45 : decode cX5_step 45 = .ok (.iconst 1, 1) := by decide +kernel
theorem dX5_step_46 : decode cX5_step 46 = .ok (.iadd, 1) := by decide +kernel
theorem dX5_step_47 : decode cX5_step 47 = .ok (.iastore, 1) := by decide +kernel
theorem dX5_step_48 : decode cX5_step 48 = .ok (.aload_n 0, 1) := by decide +kernel
theorem dX5_step_49 : decode cX5_step 49 = .ok (.getfield 35, 3) := by decide +kernel
theorem dX5_step_52 : decode cX5_step 52 = .ok (.iload_n 1, 1) := by decide +kernel
theorem dX5_step_53 : decode cX5_step 53 = .ok (.iconst 1, 1) := by decide +kernel
theorem dX5_step_54 : decode cX5_step 54 = .ok (.bastore, 1) := by decide +kernel
theorem dX5_step_55 : decode cX5_step 55 = .ok (.iload_n 2, 1) := by decide +kernel
theorem dX5_step_56 : decode cX5_step 56 = .ok (.ireturn, 1) := by decide +kernel
theorem dX5_load_0 : decode cX5_load 0 = .ok (.iconst 0, 1) := by decide +kernel
theorem dX5_load_1 : decode cX5_load 1 = .ok (.istore_n 2, 1) := by decide +kernel
theorem dX5_load_2 : decode cX5_load 2 = .ok (.iload_n 2, 1) := by decide +kernel
theorem dX5_load_3 : decode cX5_load 3 = .ok (.iconst 4, 1) := by decide +kernel
theorem dX5_load_4 : decode cX5_load 4 = .ok (.if_icmp .ge 16, 3) := by decide +kernel
theorem dX5_load_7 : decode cX5_load 7 = .ok (.aload_n 0, 1) := by decide +kernel
theorem dX5_load_8 : decode cX5_load 8 = .ok (.getfield 68, 3) := by decide +kernel
theorem dX5_load_11 : decode cX5_load 11 = .ok (.iload_n 2, 1) := by decide +kernel
theorem dX5_load_12 : decode cX5_load 12 = .ok (.iconst 0, 1) := by decide +kernel
theorem dX5_load_13 : decode cX5_load 13 = .ok (.iastore, 1) := by decide +kernel
theorem dX5_load_14 : decode cX5_load 14 = .ok (.iinc 2 1, 3) := by decide +kernel
theorem dX5_load_17 : decode cX5_load 17 = .ok (.goto (-15), 3) := by decide +kernel
theorem dX5_load_20 : decode cX5_load 20 = .ok (.iconst 0, 1) := by decide +kernel
theorem dX5_load_21 : decode cX5_load 21 = .ok (.istore_n 2, 1) := by decide +kernel
theorem dX5_load_22 : decode cX5_load 22 = .ok (.iload_n 2, 1) := by decide +kernel
theorem dX5_load_23 : decode cX5_load 23 = .ok (.iconst 3, 1) := by decide +kernel
theorem dX5_load_24 : decode cX5_load 24 = .ok (.if_icmp .ge 16, 3) := by decide +kernel
theorem dX5_load_27 : decode cX5_load 27 = .ok (.aload_n 0, 1) := by decide +kernel
theorem dX5_load_28 : decode cX5_load 28 = .ok (.getfield 71, 3) := by decide +kernel
theorem dX5_load_31 : decode cX5_load 31 = .ok (.iload_n 2, 1) := by decide +kernel
theorem dX5_load_32 : decode cX5_load 32 = .ok (.iconst 0, 1) := by decide +kernel
theorem dX5_load_33 : decode cX5_load 33 = .ok (.iastore, 1) := by decide +kernel
theorem dX5_load_34 : decode cX5_load 34 = .ok (.iinc 2 1, 3) := by decide +kernel
theorem dX5_load_37 : decode cX5_load 37 = .ok (.goto (-15), 3) := by decide +kernel
theorem dX5_load_40 : decode cX5_load 40 = .ok (.aload_n 0, 1) := by decide +kernel
theorem dX5_load_41 : decode cX5_load 41 = .ok (.iconst 0, 1) := by decide +kernel
theorem dX5_load_42 : decode cX5_load 42 = .ok (.putfield 88, 3) := by decide +kernel
theorem dX5_load_45 : decode cX5_load 45 = .ok (.aload_n 0, 1) := by decide +kernel
theorem dX5_load_46 : decode cX5_load 46 = .ok (.iconst 0, 1) := by decide +kernel
theorem dX5_load_47 : decode cX5_load 47 = .ok (.putfield 96, 3) := by decide +kernel
theorem dX5_load_50 : decode cX5_load 50 = .ok (.aload_n 0, 1) := by decide +kernel
theorem dX5_load_51 : decode cX5_load 51 = .ok (.iconst 0, 1) := by decide +kernel
theorem dX5_load_52 : decode cX5_load 52 = .ok (.putfield 102, 3) := by decide +kernel
theorem dX5_load_55 : decode cX5_load 55 = .ok (.aload_n 0, 1) := by decide +kernel
theorem dX5_load_56 : decode cX5_load 56 = .ok (.iconst 0, 1) := by decide +kernel
theorem dX5_load_57 : decode cX5_load 57 = .ok (.putfield 105, 3) := by decide +kernel
theorem dX5_load_60 : decode cX5_load 60 = .ok (.iconst 0, 1) := by decide +kernel
theorem dX5_load_61 : decode cX5_load 61 = .ok (.istore_n 2, 1) := by decide +kernel
theorem dX5_load_62 : decode cX5_load 62 = .ok (.iload_n 2, 1) := by decide +kernel
theorem dX5_load_63 : decode cX5_load 63 = .ok (.aload_n 0, 1) := by decide +kernel
theorem dX5_load_64 : decode cX5_load 64 = .ok (.getfield 26, 3) := by decide +kernel
theorem dX5_load_67 : decode cX5_load 67 = .ok (.iload_n 1, 1) := by decide +kernel
theorem dX5_load_68 : decode cX5_load 68 = .ok (.iaload, 1) := by decide +kernel
theorem dX5_load_69 : decode cX5_load 69 = .ok (.if_icmp .ge 16, 3) := by decide +kernel
theorem dX5_load_72 : decode cX5_load 72 = .ok (.aload_n 0, 1) := by decide +kernel
theorem dX5_load_73 : decode cX5_load 73 = .ok (.iload_n 1, 1) := by decide +kernel
theorem dX5_load_74 : decode cX5_load 74 = .ok (.iconst 1, 1) := by decide +kernel
theorem dX5_load_75 : decode cX5_load 75 = .ok (.invokevirtual 111, 3) := by decide +kernel
theorem dX5_load_78 : decode cX5_load 78 = .ok (.pop, 1) := by decide +kernel
theorem dX5_load_79 : decode cX5_load 79 = .ok (.iinc 2 1, 3) := by decide +kernel
theorem dX5_load_82 : decode cX5_load 82 = .ok (.goto (-20), 3) := by decide +kernel
theorem dX5_load_85 : decode cX5_load 85 = .ok (.return_, 1) := by decide +kernel
theorem dX5_go_0 : decode cX5_go 0 = .ok (.aload_n 0, 1) := by decide +kernel
theorem dX5_go_1 : decode cX5_go 1 = .ok (.getfield 88, 3) := by decide +kernel
theorem dX5_go_4 : decode cX5_go 4 = .ok (.aload_n 0, 1) := by decide +kernel
theorem dX5_go_5 : decode cX5_go 5 = .ok (.getfield 7, 3) := by decide +kernel
theorem dX5_go_8 : decode cX5_go 8 = .ok (.iload_n 1, 1) := by decide +kernel
theorem dX5_go_9 : decode cX5_go 9 = .ok (.iaload, 1) := by decide +kernel
theorem dX5_go_10 : decode cX5_go 10 = .ok (.if_icmp .lt 5, 3) := by decide +kernel
theorem dX5_go_13 : decode cX5_go 13 = .ok (.iconst 2, 1) := by decide +kernel
theorem dX5_go_14 : decode cX5_go 14 = .ok (.ireturn, 1) := by decide +kernel
theorem dX5_go_15 : decode cX5_go 15 = .ok (.bipush 16, 2) := by decide +kernel
theorem dX5_go_17 : decode cX5_go 17 = .ok (.iload_n 1, 1) := by decide +kernel
theorem dX5_go_18 : decode cX5_go 18 = .ok (.imul, 1) := by decide +kernel
theorem dX5_go_19 : decode cX5_go 19 = .ok (.aload_n 0, 1) := by decide +kernel
theorem dX5_go_20 : decode cX5_go 20 = .ok (.getfield 88, 3) := by decide +kernel
theorem dX5_go_23 : decode cX5_go 23 = .ok (.iadd, 1) := by decide +kernel
theorem dX5_go_24 : decode cX5_go 24 = .ok (.istore_n 3, 1) := by decide +kernel
theorem dX5_go_25 : decode cX5_go 25 = .ok (.aload_n 0, 1) := by decide +kernel
theorem dX5_go_26 : decode cX5_go 26 = .ok (.getfield 16, 3) := by decide +kernel
theorem dX5_go_29 : decode cX5_go 29 = .ok (.iload_n 3, 1) := by decide +kernel
theorem dX5_go_30 : decode cX5_go 30 = .ok (.iaload, 1) := by decide +kernel
theorem dX5_go_31 : decode cX5_go 31 = .ok (.istore 4, 2) := by decide +kernel
theorem dX5_go_33 : decode cX5_go 33 = .ok (.aload_n 0, 1) := by decide +kernel
theorem dX5_go_34 : decode cX5_go 34 = .ok (.getfield 19, 3) := by decide +kernel
theorem dX5_go_37 : decode cX5_go 37 = .ok (.iload_n 3, 1) := by decide +kernel
theorem dX5_go_38 : decode cX5_go 38 = .ok (.iaload, 1) := by decide +kernel
theorem dX5_go_39 : decode cX5_go 39 = .ok (.istore 5, 2) := by decide +kernel
theorem dX5_go_41 : decode cX5_go 41 = .ok (.aload_n 0, 1) := by decide +kernel
theorem dX5_go_42 : decode cX5_go 42 = .ok (.getfield 88, 3) := by decide +kernel
theorem dX5_go_45 : decode cX5_go 45 = .ok (.iconst 1, 1) := by decide +kernel
theorem dX5_go_46 : decode cX5_go 46 = .ok (.iadd, 1) := by decide +kernel
theorem dX5_go_47 : decode cX5_go 47 = .ok (.istore 6, 2) := by decide +kernel
theorem dX5_go_49 : decode cX5_go 49 = .ok (.aload_n 0, 1) := by decide +kernel
theorem dX5_go_50 : decode cX5_go 50 = .ok (.getfield 13, 3) := by decide +kernel
theorem dX5_go_53 : decode cX5_go 53 = .ok (.iload_n 3, 1) := by decide +kernel
theorem dX5_go_54 : decode cX5_go 54 = .ok (.iaload, 1) := by decide +kernel
theorem dX5_go_55 : decode cX5_go 55 = .ok (.tableswitch 252 0 6 #[41, 53, 78, 103, 136, 143, 180], 41) := by decide +kernel
theorem dX5_go_96 : decode cX5_go 96 = .ok (.aload_n 0, 1) := by decide +kernel
theorem dX5_go_97 : decode cX5_go 97 = .ok (.getfield 68, 3) := by decide +kernel
theorem dX5_go_100 : decode cX5_go 100 = .ok (.iload 4, 2) := by decide +kernel
theorem dX5_go_102 : decode cX5_go 102 = .ok (.iload 5, 2) := by decide +kernel
theorem dX5_go_104 : decode cX5_go 104 = .ok (.iastore, 1) := by decide +kernel
theorem dX5_go_105 : decode cX5_go 105 = .ok (.goto 233, 3) := by decide +kernel
theorem dX5_go_108 : decode cX5_go 108 = .ok (.aload_n 0, 1) := by decide +kernel
theorem dX5_go_109 : decode cX5_go 109 = .ok (.getfield 68, 3) := by decide +kernel
theorem dX5_go_112 : decode cX5_go 112 = .ok (.iload 4, 2) := by decide +kernel
theorem dX5_go_114 : decode cX5_go 114 = .ok (.aload_n 0, 1) := by decide +kernel
theorem dX5_go_115 : decode cX5_go 115 = .ok (.getfield 68, 3) := by decide +kernel
theorem dX5_go_118 : decode cX5_go 118 = .ok (.iload 4, 2) := by decide +kernel
theorem dX5_go_120 : decode cX5_go 120 = .ok (.iaload, 1) := by decide +kernel
theorem dX5_go_121 : decode cX5_go 121 = .ok (.aload_n 0, 1) := by decide +kernel
theorem dX5_go_122 : decode cX5_go 122 = .ok (.getfield 68, 3) := by decide +kernel
theorem dX5_go_125 : decode cX5_go 125 = .ok (.iload 5, 2) := by decide +kernel
theorem dX5_go_127 : decode cX5_go 127 = .ok (.iaload, 1) := by decide +kernel
theorem dX5_go_128 : decode cX5_go 128 = .ok (.iadd, 1) := by decide +kernel
theorem dX5_go_129 : decode cX5_go 129 = .ok (.iastore, 1) := by decide +kernel
theorem dX5_go_130 : decode cX5_go 130 = .ok (.goto 208, 3) := by decide +kernel
theorem dX5_go_133 : decode cX5_go 133 = .ok (.aload_n 0, 1) := by decide +kernel
theorem dX5_go_134 : decode cX5_go 134 = .ok (.getfield 68, 3) := by decide +kernel
theorem dX5_go_137 : decode cX5_go 137 = .ok (.iload 4, 2) := by decide +kernel
theorem dX5_go_139 : decode cX5_go 139 = .ok (.aload_n 0, 1) := by decide +kernel
theorem dX5_go_140 : decode cX5_go 140 = .ok (.getfield 68, 3) := by decide +kernel
theorem dX5_go_143 : decode cX5_go 143 = .ok (.iload 4, 2) := by decide +kernel
theorem dX5_go_145 : decode cX5_go 145 = .ok (.iaload, 1) := by decide +kernel
theorem dX5_go_146 : decode cX5_go 146 = .ok (.aload_n 0, 1) := by decide +kernel
theorem dX5_go_147 : decode cX5_go 147 = .ok (.getfield 68, 3) := by decide +kernel
theorem dX5_go_150 : decode cX5_go 150 = .ok (.iload 5, 2) := by decide +kernel
theorem dX5_go_152 : decode cX5_go 152 = .ok (.iaload, 1) := by decide +kernel
theorem dX5_go_153 : decode cX5_go 153 = .ok (.imul, 1) := by decide +kernel
theorem dX5_go_154 : decode cX5_go 154 = .ok (.iastore, 1) := by decide +kernel
theorem dX5_go_155 : decode cX5_go 155 = .ok (.goto 183, 3) := by decide +kernel
theorem dX5_go_158 : decode cX5_go 158 = .ok (.aload_n 0, 1) := by decide +kernel
theorem dX5_go_159 : decode cX5_go 159 = .ok (.getfield 68, 3) := by decide +kernel
theorem dX5_go_162 : decode cX5_go 162 = .ok (.iload 4, 2) := by decide +kernel
theorem dX5_go_164 : decode cX5_go 164 = .ok (.iaload, 1) := by decide +kernel
theorem dX5_go_165 : decode cX5_go 165 = .ok (.aload_n 0, 1) := by decide +kernel
theorem dX5_go_166 : decode cX5_go 166 = .ok (.getfield 68, 3) := by decide +kernel
theorem dX5_go_169 : decode cX5_go 169 = .ok (.iload 5, 2) := by decide +kernel
theorem dX5_go_171 : decode cX5_go 171 = .ok (.iaload, 1) := by decide +kernel
theorem dX5_go_172 : decode cX5_go 172 = .ok (.if_icmp .ge 12, 3) := by decide +kernel
theorem dX5_go_175 : decode cX5_go 175 = .ok (.aload_n 0, 1) := by decide +kernel
theorem dX5_go_176 : decode cX5_go 176 = .ok (.getfield 88, 3) := by decide +kernel
theorem dX5_go_179 : decode cX5_go 179 = .ok (.iconst 2, 1) := by decide +kernel
theorem dX5_go_180 : decode cX5_go 180 = .ok (.iadd, 1) := by decide +kernel
theorem dX5_go_181 : decode cX5_go 181 = .ok (.goto 5, 3) := by decide +kernel
theorem dX5_go_184 : decode cX5_go 184 = .ok (.iload 6, 2) := by decide +kernel
theorem dX5_go_186 : decode cX5_go 186 = .ok (.istore 6, 2) := by decide +kernel
theorem dX5_go_188 : decode cX5_go 188 = .ok (.goto 150, 3) := by decide +kernel
theorem dX5_go_191 : decode cX5_go 191 = .ok (.iload 4, 2) := by decide +kernel
theorem dX5_go_193 : decode cX5_go 193 = .ok (.istore 6, 2) := by decide +kernel
theorem dX5_go_195 : decode cX5_go 195 = .ok (.goto 143, 3) := by decide +kernel
theorem dX5_go_198 : decode cX5_go 198 = .ok (.iload_n 2, 1) := by decide +kernel
theorem dX5_go_199 : decode cX5_go 199 = .ok (.ifCond .ne 22, 3) := by decide +kernel
theorem dX5_go_202 : decode cX5_go 202 = .ok (.aload_n 0, 1) := by decide +kernel
theorem dX5_go_203 : decode cX5_go 203 = .ok (.iload_n 1, 1) := by decide +kernel
theorem dX5_go_204 : decode cX5_go 204 = .ok (.iload 4, 2) := by decide +kernel
theorem dX5_go_206 : decode cX5_go 206 = .ok (.aload_n 0, 1) := by decide +kernel
theorem dX5_go_207 : decode cX5_go 207 = .ok (.getfield 68, 3) := by decide +kernel
theorem dX5_go_210 : decode cX5_go 210 = .ok (.iload 5, 2) := by decide +kernel
theorem dX5_go_212 : decode cX5_go 212 = .ok (.iaload, 1) := by decide +kernel
theorem dX5_go_213 : decode cX5_go 213 = .ok (.invokevirtual 92, 3) := by decide +kernel
theorem dX5_go_216 : decode cX5_go 216 = .ok (.ifCond .ne 5, 3) := by decide +kernel
theorem dX5_go_219 : decode cX5_go 219 = .ok (.iconst 0, 1) := by decide +kernel
theorem dX5_go_220 : decode cX5_go 220 = .ok (.ireturn, 1) := by decide +kernel
theorem dX5_go_221 : decode cX5_go 221 = .ok (.aload_n 0, 1) := by decide +kernel
theorem dX5_go_222 : decode cX5_go 222 = .ok (.getfield 71, 3) := by decide +kernel
theorem dX5_go_225 : decode cX5_go 225 = .ok (.iload 4, 2) := by decide +kernel
theorem dX5_go_227 : decode cX5_go 227 = .ok (.dup2, 1) := by decide +kernel
theorem dX5_go_228 : decode cX5_go 228 = .ok (.iaload, 1) := by decide +kernel
theorem dX5_go_229 : decode cX5_go 229 = .ok (.iconst 1, 1) := by decide +kernel
theorem dX5_go_230 : decode cX5_go 230 = .ok (.iadd, 1) := by decide +kernel
theorem dX5_go_231 : decode cX5_go 231 = .ok (.iastore, 1) := by decide +kernel
theorem dX5_go_232 : decode cX5_go 232 = .ok (.goto 106, 3) := by decide +kernel
theorem dX5_go_235 : decode cX5_go 235 = .ok (.aload_n 0, 1) := by decide +kernel
theorem dX5_go_236 : decode cX5_go 236 = .ok (.getfield 96, 3) := by decide +kernel
theorem dX5_go_239 : decode cX5_go 239 = .ok (.aload_n 0, 1) := by decide +kernel
theorem dX5_go_240 : decode cX5_go 240 = .ok (.getfield 41, 3) := by decide +kernel
theorem dX5_go_243 : decode cX5_go 243 = .ok (.iload_n 1, 1) := by decide +kernel
theorem dX5_go_244 : decode cX5_go 244 = .ok (.iaload, 1) := by decide +kernel
theorem dX5_go_245 : decode cX5_go 245 = .ok (.if_icmp .ne 5, 3) := by decide +kernel
theorem dX5_go_248 : decode cX5_go 248 = .ok (.iconst 0, 1) := by decide +kernel
theorem dX5_go_249 : decode cX5_go 249 = .ok (.ireturn, 1) := by decide +kernel
theorem dX5_go_250 : decode cX5_go 250 = .ok (.aload_n 0, 1) := by decide +kernel
theorem dX5_go_251 : decode cX5_go 251 = .ok (.getfield 68, 3) := by decide +kernel
theorem dX5_go_254 : decode cX5_go 254 = .ok (.iload 5, 2) := by decide +kernel
theorem dX5_go_256 : decode cX5_go 256 = .ok (.aload_n 0, 1) := by decide +kernel
theorem dX5_go_257 : decode cX5_go 257 = .ok (.getfield 47, 3) := by decide +kernel
theorem dX5_go_260 : decode cX5_go 260 = .ok (.sipush 512, 3) := by decide +kernel
theorem dX5_go_263 : decode cX5_go 263 = .ok (.iload_n 1, 1) := by decide +kernel
theorem dX5_go_264 : decode cX5_go 264 = .ok (.imul, 1) := by decide +kernel
theorem dX5_go_265 : decode cX5_go 265 = .ok (.aload_n 0, 1) := by decide +kernel
theorem dX5_go_266 : decode cX5_go 266 = .ok (.getfield 96, 3) := by decide +kernel
theorem dX5_go_269 : decode cX5_go 269 = .ok (.iadd, 1) := by decide +kernel
theorem dX5_go_270 : decode cX5_go 270 = .ok (.iaload, 1) := by decide +kernel
theorem dX5_go_271 : decode cX5_go 271 = .ok (.iastore, 1) := by decide +kernel
theorem dX5_go_272 : decode cX5_go 272 = .ok (.aload_n 0, 1) := by decide +kernel
theorem dX5_go_273 : decode cX5_go 273 = .ok (.getfield 68, 3) := by decide +kernel
theorem dX5_go_276 : decode cX5_go 276 = .ok (.iload 4, 2) := by decide +kernel
theorem dX5_go_278 : decode cX5_go 278 = .ok (.aload_n 0, 1) := by decide +kernel
theorem dX5_go_279 : decode cX5_go 279 = .ok (.getfield 44, 3) := by decide +kernel
theorem dX5_go_282 : decode cX5_go 282 = .ok (.sipush 512, 3) := by decide +kernel
theorem dX5_go_285 : decode cX5_go 285 = .ok (.iload_n 1, 1) := by decide +kernel
theorem dX5_go_286 : decode cX5_go 286 = .ok (.imul, 1) := by decide +kernel
theorem dX5_go_287 : decode cX5_go 287 = .ok (.aload_n 0, 1) := by decide +kernel
theorem dX5_go_288 : decode cX5_go 288 = .ok (.getfield 96, 3) := by decide +kernel
theorem dX5_go_291 : decode cX5_go 291 = .ok (.iadd, 1) := by decide +kernel
theorem dX5_go_292 : decode cX5_go 292 = .ok (.iaload, 1) := by decide +kernel
theorem dX5_go_293 : decode cX5_go 293 = .ok (.iastore, 1) := by decide +kernel
theorem dX5_go_294 : decode cX5_go 294 = .ok (.aload_n 0, 1) := by decide +kernel
theorem dX5_go_295 : decode cX5_go 295 = .ok (.dup, 1) := by decide +kernel
theorem dX5_go_296 : decode cX5_go 296 = .ok (.getfield 96, 3) := by decide +kernel
theorem dX5_go_299 : decode cX5_go 299 = .ok (.iconst 1, 1) := by decide +kernel
theorem dX5_go_300 : decode cX5_go 300 = .ok (.iadd, 1) := by decide +kernel
theorem dX5_go_301 : decode cX5_go 301 = .ok (.putfield 96, 3) := by decide +kernel
theorem dX5_go_304 : decode cX5_go 304 = .ok (.goto 34, 3) := by decide +kernel
theorem dX5_go_307 : decode cX5_go 307 = .ok (.iload_n 2, 1) := by decide +kernel
theorem dX5_go_308 : decode cX5_go 308 = .ok (.ifCond .ne 20, 3) := by decide +kernel
theorem dX5_go_311 : decode cX5_go 311 = .ok (.aload_n 0, 1) := by decide +kernel
theorem dX5_go_312 : decode cX5_go 312 = .ok (.iload_n 1, 1) := by decide +kernel
theorem dX5_go_313 : decode cX5_go 313 = .ok (.aload_n 0, 1) := by decide +kernel
theorem dX5_go_314 : decode cX5_go 314 = .ok (.getfield 68, 3) := by decide +kernel
theorem dX5_go_317 : decode cX5_go 317 = .ok (.iload 4, 2) := by decide +kernel
theorem dX5_go_319 : decode cX5_go 319 = .ok (.iaload, 1) := by decide +kernel
theorem dX5_go_320 : decode cX5_go 320 = .ok (.invokevirtual 99, 3) := by decide +kernel
theorem dX5_go_323 : decode cX5_go 323 = .ok (.ifCond .ne 5, 3) := by decide +kernel
theorem dX5_go_326 : decode cX5_go 326 = .ok (.iconst 0, 1) := by decide +kernel
theorem dX5_go_327 : decode cX5_go 327 = .ok (.ireturn, 1) := by decide +kernel
theorem dX5_go_328 : decode cX5_go 328 = .ok (.aload_n 0, 1) := by decide +kernel
theorem dX5_go_329 : decode cX5_go 329 = .ok (.dup, 1) := by decide +kernel
theorem dX5_go_330 : decode cX5_go 330 = .ok (.getfield 102, 3) := by decide +kernel
theorem dX5_go_333 : decode cX5_go 333 = .ok (.iconst 1, 1) := by decide +kernel
theorem dX5_go_334 : decode cX5_go 334 = .ok (.iadd, 1) := by decide +kernel
theorem dX5_go_335 : decode cX5_go 335 = .ok (.putfield 102, 3) := by decide +kernel
theorem dX5_go_338 : decode cX5_go 338 = .ok (.aload_n 0, 1) := by decide +kernel
theorem dX5_go_339 : decode cX5_go 339 = .ok (.iload 6, 2) := by decide +kernel
theorem dX5_go_341 : decode cX5_go 341 = .ok (.putfield 88, 3) := by decide +kernel
theorem dX5_go_344 : decode cX5_go 344 = .ok (.aload_n 0, 1) := by decide +kernel
theorem dX5_go_345 : decode cX5_go 345 = .ok (.dup, 1) := by decide +kernel
theorem dX5_go_346 : decode cX5_go 346 = .ok (.getfield 105, 3) := by decide +kernel
theorem dX5_go_349 : decode cX5_go 349 = .ok (.iconst 1, 1) := by decide +kernel
theorem dX5_go_350 : decode cX5_go 350 = .ok (.iadd, 1) := by decide +kernel
theorem dX5_go_351 : decode cX5_go 351 = .ok (.putfield 105, 3) := by decide +kernel
theorem dX5_go_354 : decode cX5_go 354 = .ok (.iconst 1, 1) := by decide +kernel
theorem dX5_go_355 : decode cX5_go 355 = .ok (.ireturn, 1) := by decide +kernel
theorem dX5_sends_0 : decode cX5_sends 0 = .ok (.iconst 3, 1) := by decide +kernel
theorem dX5_sends_1 : decode cX5_sends 1 = .ok (.iload_n 1, 1) := by decide +kernel
theorem dX5_sends_2 : decode cX5_sends 2 = .ok (.imul, 1) := by decide +kernel
theorem dX5_sends_3 : decode cX5_sends 3 = .ok (.iload_n 2, 1) := by decide +kernel
theorem dX5_sends_4 : decode cX5_sends 4 = .ok (.iadd, 1) := by decide +kernel
theorem dX5_sends_5 : decode cX5_sends 5 = .ok (.istore 4, 2) := by decide +kernel
theorem dX5_sends_7 : decode cX5_sends 7 = .ok (.aload_n 0, 1) := by decide +kernel
theorem dX5_sends_8 : decode cX5_sends 8 = .ok (.getfield 71, 3) := by decide +kernel
theorem dX5_sends_11 : decode cX5_sends 11 = .ok (.iload_n 2, 1) := by decide +kernel
theorem dX5_sends_12 : decode cX5_sends 12 = .ok (.iaload, 1) := by decide +kernel
theorem dX5_sends_13 : decode cX5_sends 13 = .ok (.aload_n 0, 1) := by decide +kernel
theorem dX5_sends_14 : decode cX5_sends 14 = .ok (.getfield 50, 3) := by decide +kernel
theorem dX5_sends_17 : decode cX5_sends 17 = .ok (.iload 4, 2) := by decide +kernel
theorem dX5_sends_19 : decode cX5_sends 19 = .ok (.iaload, 1) := by decide +kernel
theorem dX5_sends_20 : decode cX5_sends 20 = .ok (.if_icmp .ge 15, 3) := by decide +kernel
theorem dX5_sends_23 : decode cX5_sends 23 = .ok (.aload_n 0, 1) := by decide +kernel
theorem dX5_sends_24 : decode cX5_sends 24 = .ok (.getfield 38, 3) := by decide +kernel
theorem dX5_sends_27 : decode cX5_sends 27 = .ok (.iload_n 1, 1) := by decide +kernel
theorem dX5_sends_28 : decode cX5_sends 28 = .ok (.dup2, 1) := by decide +kernel
theorem dX5_sends_29 : decode cX5_sends 29 = .ok (.iaload, 1) := by decide +kernel
theorem dX5_sends_30 : decode cX5_sends 30 = .ok (.iconst 1, 1) := by decide +kernel
theorem dX5_sends_31 : decode cX5_sends 31 = .ok (.iadd, 1) := by decide +kernel
theorem dX5_sends_32 : decode cX5_sends 32 = .ok (.iastore, 1) := by decide +kernel
theorem dX5_sends_33 : decode cX5_sends 33 = .ok (.iconst 1, 1) := by decide +kernel
theorem dX5_sends_34 : decode cX5_sends 34 = .ok (.ireturn, 1) := by decide +kernel
theorem dX5_sends_35 : decode cX5_sends 35 = .ok (.aload_n 0, 1) := by decide +kernel
theorem dX5_sends_36 : decode cX5_sends 36 = .ok (.getfield 50, 3) := by decide +kernel
theorem dX5_sends_39 : decode cX5_sends 39 = .ok (.iload 4, 2) := by decide +kernel
theorem dX5_sends_41 : decode cX5_sends 41 = .ok (.iaload, 1) := by decide +kernel
theorem dX5_sends_42 : decode cX5_sends 42 = .ok (.aload_n 0, 1) := by decide +kernel
theorem dX5_sends_43 : decode cX5_sends 43 = .ok (.getfield 53, 3) := by decide +kernel
theorem dX5_sends_46 : decode cX5_sends 46 = .ok (.iload 4, 2) := by decide +kernel
theorem dX5_sends_48 : decode cX5_sends 48 = .ok (.iaload, 1) := by decide +kernel
theorem dX5_sends_49 : decode cX5_sends 49 = .ok (.isub, 1) := by decide +kernel
theorem dX5_sends_50 : decode cX5_sends 50 = .ok (.bipush 8, 2) := by decide +kernel
theorem dX5_sends_52 : decode cX5_sends 52 = .ok (.if_icmp .ne 5, 3) := by decide +kernel
theorem dX5_sends_55 : decode cX5_sends 55 = .ok (.iconst 0, 1) := by decide +kernel
theorem dX5_sends_56 : decode cX5_sends 56 = .ok (.ireturn, 1) := by decide +kernel
theorem dX5_sends_57 : decode cX5_sends 57 = .ok (.aload_n 0, 1) := by decide +kernel
theorem dX5_sends_58 : decode cX5_sends 58 = .ok (.getfield 56, 3) := by decide +kernel
theorem dX5_sends_61 : decode cX5_sends 61 = .ok (.bipush 8, 2) := by decide +kernel
theorem dX5_sends_63 : decode cX5_sends 63 = .ok (.iload 4, 2) := by decide +kernel
theorem dX5_sends_65 : decode cX5_sends 65 = .ok (.imul, 1) := by decide +kernel
theorem dX5_sends_66 : decode cX5_sends 66 = .ok (.aload_n 0, 1) := by decide +kernel
theorem dX5_sends_67 : decode cX5_sends 67 = .ok (.getfield 50, 3) := by decide +kernel
theorem dX5_sends_70 : decode cX5_sends 70 = .ok (.iload 4, 2) := by decide +kernel
theorem dX5_sends_72 : decode cX5_sends 72 = .ok (.iaload, 1) := by decide +kernel
theorem dX5_sends_73 : decode cX5_sends 73 = .ok (.bipush 8, 2) := by decide +kernel
theorem dX5_sends_75 : decode cX5_sends 75 = .ok (.irem, 1) := by decide +kernel
theorem dX5_sends_76 : decode cX5_sends 76 = .ok (.iadd, 1) := by decide +kernel
theorem dX5_sends_77 : decode cX5_sends 77 = .ok (.iload_n 3, 1) := by decide +kernel
theorem dX5_sends_78 : decode cX5_sends 78 = .ok (.iastore, 1) := by decide +kernel
theorem dX5_sends_79 : decode cX5_sends 79 = .ok (.aload_n 0, 1) := by decide +kernel
theorem dX5_sends_80 : decode cX5_sends 80 = .ok (.getfield 50, 3) := by decide +kernel
theorem dX5_sends_83 : decode cX5_sends 83 = .ok (.iload 4, 2) := by decide +kernel
theorem dX5_sends_85 : decode cX5_sends 85 = .ok (.dup2, 1) := by decide +kernel
theorem dX5_sends_86 : decode cX5_sends 86 = .ok (.iaload, 1) := by decide +kernel
theorem dX5_sends_87 : decode cX5_sends 87 = .ok (.iconst 1, 1) := by decide +kernel
theorem dX5_sends_88 : decode cX5_sends 88 = .ok (.iadd, 1) := by decide +kernel
theorem dX5_sends_89 : decode cX5_sends 89 = .ok (.iastore, 1) := by decide +kernel
theorem dX5_sends_90 : decode cX5_sends 90 = .ok (.iconst 1, 1) := by decide +kernel
theorem dX5_sends_91 : decode cX5_sends 91 = .ok (.ireturn, 1) := by decide +kernel
theorem dX5_puts_0 : decode cX5_puts 0 = .ok (.aload_n 0, 1) := by decide +kernel
theorem dX5_puts_1 : decode cX5_puts 1 = .ok (.getfield 102, 3) := by decide +kernel
theorem dX5_puts_4 : decode cX5_puts 4 = .ok (.aload_n 0, 1) := by decide +kernel
theorem dX5_puts_5 : decode cX5_puts 5 = .ok (.getfield 65, 3) := by decide +kernel
theorem dX5_puts_8 : decode cX5_puts 8 = .ok (.iload_n 1, 1) := by decide +kernel
theorem dX5_puts_9 : decode cX5_puts 9 = .ok (.iaload, 1) := by decide +kernel
theorem dX5_puts_10 : decode cX5_puts 10 = .ok (.if_icmp .ge 15, 3) := by decide +kernel
theorem dX5_puts_13 : decode cX5_puts 13 = .ok (.aload_n 0, 1) := by decide +kernel
theorem dX5_puts_14 : decode cX5_puts 14 = .ok (.getfield 38, 3) := by decide +kernel
theorem dX5_puts_17 : decode cX5_puts 17 = .ok (.iload_n 1, 1) := by decide +kernel
theorem dX5_puts_18 : decode cX5_puts 18 = .ok (.dup2, 1) := by decide +kernel
theorem dX5_puts_19 : decode cX5_puts 19 = .ok (.iaload, 1) := by decide +kernel
theorem dX5_puts_20 : decode cX5_puts 20 = .ok (.iconst 1, 1) := by decide +kernel
theorem dX5_puts_21 : decode cX5_puts 21 = .ok (.iadd, 1) := by decide +kernel
theorem dX5_puts_22 : decode cX5_puts 22 = .ok (.iastore, 1) := by decide +kernel
theorem dX5_puts_23 : decode cX5_puts 23 = .ok (.iconst 1, 1) := by decide +kernel
theorem dX5_puts_24 : decode cX5_puts 24 = .ok (.ireturn, 1) := by decide +kernel
theorem dX5_puts_25 : decode cX5_puts 25 = .ok (.aload_n 0, 1) := by decide +kernel
theorem dX5_puts_26 : decode cX5_puts 26 = .ok (.getfield 108, 3) := by decide +kernel
theorem dX5_puts_29 : decode cX5_puts 29 = .ok (.bipush 60, 2) := by decide +kernel
theorem dX5_puts_31 : decode cX5_puts 31 = .ok (.if_icmp .ne 5, 3) := by decide +kernel
theorem dX5_puts_34 : decode cX5_puts 34 = .ok (.iconst 0, 1) := by decide +kernel
theorem dX5_puts_35 : decode cX5_puts 35 = .ok (.ireturn, 1) := by decide +kernel
theorem dX5_puts_36 : decode cX5_puts 36 = .ok (.aload_n 0, 1) := by decide +kernel
theorem dX5_puts_37 : decode cX5_puts 37 = .ok (.getfield 59, 3) := by decide +kernel
theorem dX5_puts_40 : decode cX5_puts 40 = .ok (.aload_n 0, 1) := by decide +kernel
theorem dX5_puts_41 : decode cX5_puts 41 = .ok (.getfield 108, 3) := by decide +kernel
theorem dX5_puts_44 : decode cX5_puts 44 = .ok (.iload_n 1, 1) := by decide +kernel
theorem dX5_puts_45 : decode cX5_puts 45 = .ok (.iastore, 1) := by decide +kernel
theorem dX5_puts_46 : decode cX5_puts 46 = .ok (.aload_n 0, 1) := by decide +kernel
theorem dX5_puts_47 : decode cX5_puts 47 = .ok (.getfield 62, 3) := by decide +kernel
theorem dX5_puts_50 : decode cX5_puts 50 = .ok (.aload_n 0, 1) := by decide +kernel
theorem dX5_puts_51 : decode cX5_puts 51 = .ok (.getfield 108, 3) := by decide +kernel
theorem dX5_puts_54 : decode cX5_puts 54 = .ok (.iload_n 2, 1) := by decide +kernel
theorem dX5_puts_55 : decode cX5_puts 55 = .ok (.iastore, 1) := by decide +kernel
theorem dX5_puts_56 : decode cX5_puts 56 = .ok (.aload_n 0, 1) := by decide +kernel
theorem dX5_puts_57 : decode cX5_puts 57 = .ok (.dup, 1) := by decide +kernel
theorem dX5_puts_58 : decode cX5_puts 58 = .ok (.getfield 108, 3) := by decide +kernel
theorem dX5_puts_61 : decode cX5_puts 61 = .ok (.iconst 1, 1) := by decide +kernel
theorem dX5_puts_62 : decode cX5_puts 62 = .ok (.iadd, 1) := by decide +kernel
theorem dX5_puts_63 : decode cX5_puts 63 = .ok (.putfield 108, 3) := by decide +kernel
theorem dX5_puts_66 : decode cX5_puts 66 = .ok (.aload_n 0, 1) := by decide +kernel
theorem dX5_puts_67 : decode cX5_puts 67 = .ok (.getfield 65, 3) := by decide +kernel
theorem dX5_puts_70 : decode cX5_puts 70 = .ok (.iload_n 1, 1) := by decide +kernel
theorem dX5_puts_71 : decode cX5_puts 71 = .ok (.dup2, 1) := by decide +kernel
theorem dX5_puts_72 : decode cX5_puts 72 = .ok (.iaload, 1) := by decide +kernel
theorem dX5_puts_73 : decode cX5_puts 73 = .ok (.iconst 1, 1) := by decide +kernel
theorem dX5_puts_74 : decode cX5_puts 74 = .ok (.iadd, 1) := by decide +kernel
theorem dX5_puts_75 : decode cX5_puts 75 = .ok (.iastore, 1) := by decide +kernel
theorem dX5_puts_76 : decode cX5_puts 76 = .ok (.iconst 1, 1) := by decide +kernel
theorem dX5_puts_77 : decode cX5_puts 77 = .ok (.ireturn, 1) := by decide +kernel
theorem dX5_run_0 : decode cX5_run 0 = .ok (.iload_n 1, 1) := by decide +kernel
theorem dX5_run_1 : decode cX5_run 1 = .ok (.invokestatic 74, 3) := by decide +kernel
theorem dX5_run_4 : decode cX5_run 4 = .ok (.ifCond .eq 14, 3) := by decide +kernel
theorem dX5_run_7 : decode cX5_run 7 = .ok (.iload_n 2, 1) := by decide +kernel
theorem dX5_run_8 : decode cX5_run 8 = .ok (.iconst 1, 1) := by decide +kernel
theorem dX5_run_9 : decode cX5_run 9 = .ok (.if_icmp .lt 9, 3) := by decide +kernel
theorem dX5_run_12 : decode cX5_run 12 = .ok (.iload_n 2, 1) := by decide +kernel
theorem dX5_run_13 : decode cX5_run 13 = .ok (.bipush 100, 2) := by decide +kernel
theorem dX5_run_15 : decode cX5_run 15 = .ok (.if_icmp .le 5, 3) := by decide +kernel
theorem dX5_run_18 : decode cX5_run 18 = .ok (.iconst (-1), 1) := by decide +kernel
theorem dX5_run_19 : decode cX5_run 19 = .ok (.ireturn, 1) := by decide +kernel
theorem dX5_run_20 : decode cX5_run 20 = .ok (.aload_n 0, 1) := by decide +kernel
theorem dX5_run_21 : decode cX5_run 21 = .ok (.getfield 22, 3) := by decide +kernel
theorem dX5_run_24 : decode cX5_run 24 = .ok (.iload_n 1, 1) := by decide +kernel
theorem dX5_run_25 : decode cX5_run 25 = .ok (.baload, 1) := by decide +kernel
theorem dX5_run_26 : decode cX5_run 26 = .ok (.ifCond .eq 6, 3) := by decide +kernel
theorem dX5_run_29 : decode cX5_run 29 = .ok (.bipush (-2), 2) := by decide +kernel
theorem dX5_run_31 : decode cX5_run 31 = .ok (.ireturn, 1) := by decide +kernel
theorem dX5_run_32 : decode cX5_run 32 = .ok (.aload_n 0, 1) := by decide +kernel
theorem dX5_run_33 : decode cX5_run 33 = .ok (.iload_n 1, 1) := by decide +kernel
theorem dX5_run_34 : decode cX5_run 34 = .ok (.invokevirtual 123, 3) := by decide +kernel
theorem dX5_run_37 : decode cX5_run 37 = .ok (.iconst 0, 1) := by decide +kernel
theorem dX5_run_38 : decode cX5_run 38 = .ok (.istore_n 3, 1) := by decide +kernel
theorem dX5_run_39 : decode cX5_run 39 = .ok (.iload_n 3, 1) := by decide +kernel
theorem dX5_run_40 : decode cX5_run 40 = .ok (.iload_n 2, 1) := by decide +kernel
theorem dX5_run_41 : decode cX5_run 41 = .ok (.if_icmp .ge 19, 3) := by decide +kernel
theorem dX5_run_44 : decode cX5_run 44 = .ok (.aload_n 0, 1) := by decide +kernel
theorem dX5_run_45 : decode cX5_run 45 = .ok (.iload_n 1, 1) := by decide +kernel
theorem dX5_run_46 : decode cX5_run 46 = .ok (.iconst 0, 1) := by decide +kernel
theorem dX5_run_47 : decode cX5_run 47 = .ok (.invokevirtual 111, 3) := by decide +kernel
theorem dX5_run_50 : decode cX5_run 50 = .ok (.iconst 1, 1) := by decide +kernel
theorem dX5_run_51 : decode cX5_run 51 = .ok (.if_icmp .ne 9, 3) := by decide +kernel
theorem dX5_run_54 : decode cX5_run 54 = .ok (.iinc 3 1, 3) := by decide +kernel
theorem dX5_run_57 : decode cX5_run 57 = .ok (.goto (-18), 3) := by decide +kernel
theorem dX5_run_60 : decode cX5_run 60 = .ok (.aload_n 0, 1) := by decide +kernel
theorem dX5_run_61 : decode cX5_run 61 = .ok (.getfield 26, 3) := by decide +kernel
theorem dX5_run_64 : decode cX5_run 64 = .ok (.iload_n 1, 1) := by decide +kernel
theorem dX5_run_65 : decode cX5_run 65 = .ok (.dup2, 1) := by decide +kernel
theorem dX5_run_66 : decode cX5_run 66 = .ok (.iaload, 1) := by decide +kernel
theorem dX5_run_67 : decode cX5_run 67 = .ok (.iload_n 3, 1) := by decide +kernel
theorem dX5_run_68 : decode cX5_run 68 = .ok (.iadd, 1) := by decide +kernel
theorem dX5_run_69 : decode cX5_run 69 = .ok (.iastore, 1) := by decide +kernel
theorem dX5_run_70 : decode cX5_run 70 = .ok (.aload_n 0, 1) := by decide +kernel
theorem dX5_run_71 : decode cX5_run 71 = .ok (.getfield 35, 3) := by decide +kernel
theorem dX5_run_74 : decode cX5_run 74 = .ok (.iload_n 1, 1) := by decide +kernel
theorem dX5_run_75 : decode cX5_run 75 = .ok (.aload_n 0, 1) := by decide +kernel
theorem dX5_run_76 : decode cX5_run 76 = .ok (.getfield 35, 3) := by decide +kernel
theorem dX5_run_79 : decode cX5_run 79 = .ok (.iload_n 1, 1) := by decide +kernel
theorem dX5_run_80 : decode cX5_run 80 = .ok (.baload, 1) := by decide +kernel
theorem dX5_run_81 : decode cX5_run 81 = .ok (.ifCond .ne 7, 3) := by decide +kernel
theorem dX5_run_84 : decode cX5_run 84 = .ok (.iload_n 3, 1) := by decide +kernel
theorem dX5_run_85 : decode cX5_run 85 = .ok (.ifCond .le 7, 3) := by decide +kernel
theorem dX5_run_88 : decode cX5_run 88 = .ok (.iconst 1, 1) := by decide +kernel
theorem dX5_run_89 : decode cX5_run 89 = .ok (.goto 4, 3) := by decide +kernel
theorem dX5_run_92 : decode cX5_run 92 = .ok (.iconst 0, 1) := by decide +kernel
theorem dX5_run_93 : decode cX5_run 93 = .ok (.bastore, 1) := by decide +kernel
theorem dX5_run_94 : decode cX5_run 94 = .ok (.iload_n 3, 1) := by decide +kernel
theorem dX5_run_95 : decode cX5_run 95 = .ok (.ireturn, 1) := by decide +kernel
theorem dX5_checkpoint_0 : decode cX5_checkpoint 0 = .ok (.iload_n 1, 1) := by decide +kernel
theorem dX5_checkpoint_1 : decode cX5_checkpoint 1 = .ok (.invokestatic 74, 3) := by decide +kernel
theorem dX5_checkpoint_4 : decode cX5_checkpoint 4 = .ok (.ifCond .ne 5, 3) := by decide +kernel
theorem dX5_checkpoint_7 : decode cX5_checkpoint 7 = .ok (.iconst (-1), 1) := by decide +kernel
theorem dX5_checkpoint_8 : decode cX5_checkpoint 8 = .ok (.ireturn, 1) := by decide +kernel
theorem dX5_checkpoint_9 : decode cX5_checkpoint 9 = .ok (.aload_n 0, 1) := by decide +kernel
theorem dX5_checkpoint_10 : decode cX5_checkpoint 10 = .ok (.getfield 22, 3) := by decide +kernel
theorem dX5_checkpoint_13 : decode cX5_checkpoint 13 = .ok (.iload_n 1, 1) := by decide +kernel
theorem dX5_checkpoint_14 : decode cX5_checkpoint 14 = .ok (.baload, 1) := by decide +kernel
theorem dX5_checkpoint_15 : decode cX5_checkpoint 15 = .ok (.ifCond .eq 6, 3) := by decide +kernel
theorem dX5_checkpoint_18 : decode cX5_checkpoint 18 = .ok (.bipush (-2), 2) := by decide +kernel
theorem dX5_checkpoint_20 : decode cX5_checkpoint 20 = .ok (.ireturn, 1) := by decide +kernel
theorem dX5_checkpoint_21 : decode cX5_checkpoint 21 = .ok (.aload_n 0, 1) := by decide +kernel
theorem dX5_checkpoint_22 : decode cX5_checkpoint 22 = .ok (.iload_n 1, 1) := by decide +kernel
theorem dX5_checkpoint_23 : decode cX5_checkpoint 23 = .ok (.invokevirtual 123, 3) := by decide +kernel
theorem dX5_checkpoint_26 : decode cX5_checkpoint 26 = .ok (.aload_n 0, 1) := by decide +kernel
theorem dX5_checkpoint_27 : decode cX5_checkpoint 27 = .ok (.getfield 96, 3) := by decide +kernel
theorem dX5_checkpoint_30 : decode cX5_checkpoint 30 = .ok (.aload_n 0, 1) := by decide +kernel
theorem dX5_checkpoint_31 : decode cX5_checkpoint 31 = .ok (.getfield 32, 3) := by decide +kernel
theorem dX5_checkpoint_34 : decode cX5_checkpoint 34 = .ok (.iload_n 1, 1) := by decide +kernel
theorem dX5_checkpoint_35 : decode cX5_checkpoint 35 = .ok (.iaload, 1) := by decide +kernel
theorem dX5_checkpoint_36 : decode cX5_checkpoint 36 = .ok (.isub, 1) := by decide +kernel
theorem dX5_checkpoint_37 : decode cX5_checkpoint 37 = .ok (.istore_n 2, 1) := by decide +kernel
theorem dX5_checkpoint_38 : decode cX5_checkpoint 38 = .ok (.aload_n 0, 1) := by decide +kernel
theorem dX5_checkpoint_39 : decode cX5_checkpoint 39 = .ok (.getfield 29, 3) := by decide +kernel
theorem dX5_checkpoint_42 : decode cX5_checkpoint 42 = .ok (.iload_n 1, 1) := by decide +kernel
theorem dX5_checkpoint_43 : decode cX5_checkpoint 43 = .ok (.aload_n 0, 1) := by decide +kernel
theorem dX5_checkpoint_44 : decode cX5_checkpoint 44 = .ok (.getfield 26, 3) := by decide +kernel
theorem dX5_checkpoint_47 : decode cX5_checkpoint 47 = .ok (.iload_n 1, 1) := by decide +kernel
theorem dX5_checkpoint_48 : decode cX5_checkpoint 48 = .ok (.iaload, 1) := by decide +kernel
theorem dX5_checkpoint_49 : decode cX5_checkpoint 49 = .ok (.iastore, 1) := by decide +kernel
theorem dX5_checkpoint_50 : decode cX5_checkpoint 50 = .ok (.aload_n 0, 1) := by decide +kernel
theorem dX5_checkpoint_51 : decode cX5_checkpoint 51 = .ok (.getfield 32, 3) := by decide +kernel
theorem dX5_checkpoint_54 : decode cX5_checkpoint 54 = .ok (.iload_n 1, 1) := by decide +kernel
theorem dX5_checkpoint_55 : decode cX5_checkpoint 55 = .ok (.aload_n 0, 1) := by decide +kernel
theorem dX5_checkpoint_56 : decode cX5_checkpoint 56 = .ok (.getfield 96, 3) := by decide +kernel
theorem dX5_checkpoint_59 : decode cX5_checkpoint 59 = .ok (.iastore, 1) := by decide +kernel
theorem dX5_checkpoint_60 : decode cX5_checkpoint 60 = .ok (.iload_n 2, 1) := by decide +kernel
theorem dX5_checkpoint_61 : decode cX5_checkpoint 61 = .ok (.ireturn, 1) := by decide +kernel
theorem dX5_crash_0 : decode cX5_crash 0 = .ok (.iload_n 1, 1) := by decide +kernel
theorem dX5_crash_1 : decode cX5_crash 1 = .ok (.invokestatic 74, 3) := by decide +kernel
theorem dX5_crash_4 : decode cX5_crash 4 = .ok (.ifCond .eq 12, 3) := by decide +kernel
theorem dX5_crash_7 : decode cX5_crash 7 = .ok (.aload_n 0, 1) := by decide +kernel
theorem dX5_crash_8 : decode cX5_crash 8 = .ok (.getfield 22, 3) := by decide +kernel
theorem dX5_crash_11 : decode cX5_crash 11 = .ok (.iload_n 1, 1) := by decide +kernel
theorem dX5_crash_12 : decode cX5_crash 12 = .ok (.baload, 1) := by decide +kernel
theorem dX5_crash_13 : decode cX5_crash 13 = .ok (.ifCond .eq 5, 3) := by decide +kernel
theorem dX5_crash_16 : decode cX5_crash 16 = .ok (.iconst 0, 1) := by decide +kernel
theorem dX5_crash_17 : decode cX5_crash 17 = .ok (.ireturn, 1) := by decide +kernel
theorem dX5_crash_18 : decode cX5_crash 18 = .ok (.aload_n 0, 1) := by decide +kernel
theorem dX5_crash_19 : decode cX5_crash 19 = .ok (.getfield 22, 3) := by decide +kernel
theorem dX5_crash_22 : decode cX5_crash 22 = .ok (.iload_n 1, 1) := by decide +kernel
theorem dX5_crash_23 : decode cX5_crash 23 = .ok (.iconst 1, 1) := by decide +kernel
theorem dX5_crash_24 : decode cX5_crash 24 = .ok (.bastore, 1) := by decide +kernel
theorem dX5_crash_25 : decode cX5_crash 25 = .ok (.iconst 1, 1) := by decide +kernel
theorem dX5_crash_26 : decode cX5_crash 26 = .ok (.ireturn, 1) := by decide +kernel
theorem dX5_recover_0 : decode cX5_recover 0 = .ok (.iload_n 1, 1) := by decide +kernel
theorem dX5_recover_1 : decode cX5_recover 1 = .ok (.invokestatic 74, 3) := by decide +kernel
theorem dX5_recover_4 : decode cX5_recover 4 = .ok (.ifCond .ne 5, 3) := by decide +kernel
theorem dX5_recover_7 : decode cX5_recover 7 = .ok (.iconst (-1), 1) := by decide +kernel
theorem dX5_recover_8 : decode cX5_recover 8 = .ok (.ireturn, 1) := by decide +kernel
theorem dX5_recover_9 : decode cX5_recover 9 = .ok (.aload_n 0, 1) := by decide +kernel
theorem dX5_recover_10 : decode cX5_recover 10 = .ok (.getfield 22, 3) := by decide +kernel
theorem dX5_recover_13 : decode cX5_recover 13 = .ok (.iload_n 1, 1) := by decide +kernel
theorem dX5_recover_14 : decode cX5_recover 14 = .ok (.baload, 1) := by decide +kernel
theorem dX5_recover_15 : decode cX5_recover 15 = .ok (.ifCond .ne 6, 3) := by decide +kernel
theorem dX5_recover_18 : decode cX5_recover 18 = .ok (.bipush (-3), 2) := by decide +kernel
theorem dX5_recover_20 : decode cX5_recover 20 = .ok (.ireturn, 1) := by decide +kernel
theorem dX5_recover_21 : decode cX5_recover 21 = .ok (.aload_n 0, 1) := by decide +kernel
theorem dX5_recover_22 : decode cX5_recover 22 = .ok (.getfield 22, 3) := by decide +kernel
theorem dX5_recover_25 : decode cX5_recover 25 = .ok (.iload_n 1, 1) := by decide +kernel
theorem dX5_recover_26 : decode cX5_recover 26 = .ok (.iconst 0, 1) := by decide +kernel
theorem dX5_recover_27 : decode cX5_recover 27 = .ok (.bastore, 1) := by decide +kernel
theorem dX5_recover_28 : decode cX5_recover 28 = .ok (.aload_n 0, 1) := by decide +kernel
theorem dX5_recover_29 : decode cX5_recover 29 = .ok (.getfield 26, 3) := by decide +kernel
theorem dX5_recover_32 : decode cX5_recover 32 = .ok (.iload_n 1, 1) := by decide +kernel
theorem dX5_recover_33 : decode cX5_recover 33 = .ok (.aload_n 0, 1) := by decide +kernel
theorem dX5_recover_34 : decode cX5_recover 34 = .ok (.getfield 29, 3) := by decide +kernel
theorem dX5_recover_37 : decode cX5_recover 37 = .ok (.iload_n 1, 1) := by decide +kernel
theorem dX5_recover_38 : decode cX5_recover 38 = .ok (.iaload, 1) := by decide +kernel
theorem dX5_recover_39 : decode cX5_recover 39 = .ok (.iastore, 1) := by decide +kernel
theorem dX5_recover_40 : decode cX5_recover 40 = .ok (.aload_n 0, 1) := by decide +kernel
theorem dX5_recover_41 : decode cX5_recover 41 = .ok (.iload_n 1, 1) := by decide +kernel
theorem dX5_recover_42 : decode cX5_recover 42 = .ok (.invokevirtual 115, 3) := by decide +kernel
theorem dX5_recover_45 : decode cX5_recover 45 = .ok (.ireturn, 1) := by decide +kernel
theorem dX5_register_0 : decode cX5_register 0 = .ok (.iload_n 1, 1) := by decide +kernel
theorem dX5_register_1 : decode cX5_register 1 = .ok (.invokestatic 74, 3) := by decide +kernel
theorem dX5_register_4 : decode cX5_register 4 = .ok (.ifCond .eq 19, 3) := by decide +kernel
theorem dX5_register_7 : decode cX5_register 7 = .ok (.iload_n 2, 1) := by decide +kernel
theorem dX5_register_8 : decode cX5_register 8 = .ok (.invokestatic 82, 3) := by decide +kernel
theorem dX5_register_11 : decode cX5_register 11 = .ok (.ifCond .eq 12, 3) := by decide +kernel
theorem dX5_register_14 : decode cX5_register 14 = .ok (.aload_n 0, 1) := by decide +kernel
theorem dX5_register_15 : decode cX5_register 15 = .ok (.getfield 22, 3) := by decide +kernel
theorem dX5_register_18 : decode cX5_register 18 = .ok (.iload_n 1, 1) := by decide +kernel
theorem dX5_register_19 : decode cX5_register 19 = .ok (.baload, 1) := by decide +kernel
theorem dX5_register_20 : decode cX5_register 20 = .ok (.ifCond .eq 5, 3) := by decide +kernel
theorem dX5_register_23 : decode cX5_register 23 = .ok (.iconst 0, 1) := by decide +kernel
theorem dX5_register_24 : decode cX5_register 24 = .ok (.ireturn, 1) := by decide +kernel
theorem dX5_register_25 : decode cX5_register 25 = .ok (.aload_n 0, 1) := by decide +kernel
theorem dX5_register_26 : decode cX5_register 26 = .ok (.iload_n 1, 1) := by decide +kernel
theorem dX5_register_27 : decode cX5_register 27 = .ok (.invokevirtual 123, 3) := by decide +kernel
theorem dX5_register_30 : decode cX5_register 30 = .ok (.aload_n 0, 1) := by decide +kernel
theorem dX5_register_31 : decode cX5_register 31 = .ok (.getfield 68, 3) := by decide +kernel
theorem dX5_register_34 : decode cX5_register 34 = .ok (.iload_n 2, 1) := by decide +kernel
theorem dX5_register_35 : decode cX5_register 35 = .ok (.iaload, 1) := by decide +kernel
theorem dX5_register_36 : decode cX5_register 36 = .ok (.ireturn, 1) := by decide +kernel
theorem dX5_state_0 : decode cX5_state 0 = .ok (.iload_n 1, 1) := by decide +kernel
theorem dX5_state_1 : decode cX5_state 1 = .ok (.invokestatic 74, 3) := by decide +kernel
theorem dX5_state_4 : decode cX5_state 4 = .ok (.ifCond .eq 12, 3) := by decide +kernel
theorem dX5_state_7 : decode cX5_state 7 = .ok (.iload_n 2, 1) := by decide +kernel
theorem dX5_state_8 : decode cX5_state 8 = .ok (.ifCond .lt 8, 3) := by decide +kernel
theorem dX5_state_11 : decode cX5_state 11 = .ok (.iload_n 2, 1) := by decide +kernel
theorem dX5_state_12 : decode cX5_state 12 = .ok (.iconst 3, 1) := by decide +kernel
theorem dX5_state_13 : decode cX5_state 13 = .ok (.if_icmp .le 5, 3) := by decide +kernel
theorem dX5_state_16 : decode cX5_state 16 = .ok (.iconst (-1), 1) := by decide +kernel
theorem dX5_state_17 : decode cX5_state 17 = .ok (.ireturn, 1) := by decide +kernel
theorem dX5_state_18 : decode cX5_state 18 = .ok (.aload_n 0, 1) := by decide +kernel
theorem dX5_state_19 : decode cX5_state 19 = .ok (.getfield 22, 3) := by decide +kernel
theorem dX5_state_22 : decode cX5_state 22 = .ok (.iload_n 1, 1) := by decide +kernel
theorem dX5_state_23 : decode cX5_state 23 = .ok (.baload, 1) := by decide +kernel
theorem dX5_state_24 : decode cX5_state 24 = .ok (.ifCond .eq 6, 3) := by decide +kernel
theorem dX5_state_27 : decode cX5_state 27 = .ok (.bipush (-2), 2) := by decide +kernel
theorem dX5_state_29 : decode cX5_state 29 = .ok (.ireturn, 1) := by decide +kernel
theorem dX5_state_30 : decode cX5_state 30 = .ok (.aload_n 0, 1) := by decide +kernel
theorem dX5_state_31 : decode cX5_state 31 = .ok (.iload_n 1, 1) := by decide +kernel
theorem dX5_state_32 : decode cX5_state 32 = .ok (.invokevirtual 123, 3) := by decide +kernel
theorem dX5_state_35 : decode cX5_state 35 = .ok (.iload_n 2, 1) := by decide +kernel
theorem dX5_state_36 : decode cX5_state 36 = .ok (.ifCond .ne 10, 3) := by decide +kernel
theorem dX5_state_39 : decode cX5_state 39 = .ok (.aload_n 0, 1) := by decide +kernel
theorem dX5_state_40 : decode cX5_state 40 = .ok (.getfield 88, 3) := by decide +kernel
theorem dX5_state_43 : decode cX5_state 43 = .ok (.goto 31, 3) := by decide +kernel
theorem dX5_state_46 : decode cX5_state 46 = .ok (.iload_n 2, 1) := by decide +kernel
theorem dX5_state_47 : decode cX5_state 47 = .ok (.iconst 1, 1) := by decide +kernel
theorem dX5_state_48 : decode cX5_state 48 = .ok (.if_icmp .ne 10, 3) := by decide +kernel
theorem dX5_state_51 : decode cX5_state 51 = .ok (.aload_n 0, 1) := by decide +kernel
theorem dX5_state_52 : decode cX5_state 52 = .ok (.getfield 105, 3) := by decide +kernel
theorem dX5_state_55 : decode cX5_state 55 = .ok (.goto 19, 3) := by decide +kernel
theorem dX5_state_58 : decode cX5_state 58 = .ok (.iload_n 2, 1) := by decide +kernel
theorem dX5_state_59 : decode cX5_state 59 = .ok (.iconst 2, 1) := by decide +kernel
theorem dX5_state_60 : decode cX5_state 60 = .ok (.if_icmp .ne 10, 3) := by decide +kernel
theorem dX5_state_63 : decode cX5_state 63 = .ok (.aload_n 0, 1) := by decide +kernel
theorem dX5_state_64 : decode cX5_state 64 = .ok (.getfield 96, 3) := by decide +kernel
theorem dX5_state_67 : decode cX5_state 67 = .ok (.goto 7, 3) := by decide +kernel
theorem dX5_state_70 : decode cX5_state 70 = .ok (.aload_n 0, 1) := by decide +kernel
theorem dX5_state_71 : decode cX5_state 71 = .ok (.getfield 102, 3) := by decide +kernel
theorem dX5_state_74 : decode cX5_state 74 = .ok (.ireturn, 1) := by decide +kernel
theorem dX5_sent_0 : decode cX5_sent 0 = .ok (.iload_n 1, 1) := by decide +kernel
theorem dX5_sent_1 : decode cX5_sent 1 = .ok (.iload_n 2, 1) := by decide +kernel
theorem dX5_sent_2 : decode cX5_sent 2 = .ok (.invokestatic 78, 3) := by decide +kernel
theorem dX5_sent_5 : decode cX5_sent 5 = .ok (.ifCond .ne 5, 3) := by decide +kernel
theorem dX5_sent_8 : decode cX5_sent 8 = .ok (.iconst (-1), 1) := by decide +kernel
theorem dX5_sent_9 : decode cX5_sent 9 = .ok (.ireturn, 1) := by decide +kernel
theorem dX5_sent_10 : decode cX5_sent 10 = .ok (.aload_n 0, 1) := by decide +kernel
theorem dX5_sent_11 : decode cX5_sent 11 = .ok (.getfield 22, 3) := by decide +kernel
theorem dX5_sent_14 : decode cX5_sent 14 = .ok (.iload_n 1, 1) := by decide +kernel
theorem dX5_sent_15 : decode cX5_sent 15 = .ok (.baload, 1) := by decide +kernel
theorem dX5_sent_16 : decode cX5_sent 16 = .ok (.ifCond .eq 6, 3) := by decide +kernel
theorem dX5_sent_19 : decode cX5_sent 19 = .ok (.bipush (-2), 2) := by decide +kernel
theorem dX5_sent_21 : decode cX5_sent 21 = .ok (.ireturn, 1) := by decide +kernel
theorem dX5_sent_22 : decode cX5_sent 22 = .ok (.aload_n 0, 1) := by decide +kernel
theorem dX5_sent_23 : decode cX5_sent 23 = .ok (.iload_n 1, 1) := by decide +kernel
theorem dX5_sent_24 : decode cX5_sent 24 = .ok (.invokevirtual 123, 3) := by decide +kernel
theorem dX5_sent_27 : decode cX5_sent 27 = .ok (.aload_n 0, 1) := by decide +kernel
theorem dX5_sent_28 : decode cX5_sent 28 = .ok (.getfield 71, 3) := by decide +kernel
theorem dX5_sent_31 : decode cX5_sent 31 = .ok (.iload_n 2, 1) := by decide +kernel
theorem dX5_sent_32 : decode cX5_sent 32 = .ok (.iaload, 1) := by decide +kernel
theorem dX5_sent_33 : decode cX5_sent 33 = .ok (.ireturn, 1) := by decide +kernel
theorem dX5_kept_0 : decode cX5_kept 0 = .ok (.iload_n 1, 1) := by decide +kernel
theorem dX5_kept_1 : decode cX5_kept 1 = .ok (.invokestatic 74, 3) := by decide +kernel
theorem dX5_kept_4 : decode cX5_kept 4 = .ok (.ifCond .eq 11, 3) := by decide +kernel
theorem dX5_kept_7 : decode cX5_kept 7 = .ok (.aload_n 0, 1) := by decide +kernel
theorem dX5_kept_8 : decode cX5_kept 8 = .ok (.iload_n 1, 1) := by decide +kernel
theorem dX5_kept_9 : decode cX5_kept 9 = .ok (.invokevirtual 115, 3) := by decide +kernel
theorem dX5_kept_12 : decode cX5_kept 12 = .ok (.goto 4, 3) := by decide +kernel
theorem dX5_kept_15 : decode cX5_kept 15 = .ok (.iconst (-1), 1) := by decide +kernel
theorem dX5_kept_16 : decode cX5_kept 16 = .ok (.ireturn, 1) := by decide +kernel
theorem dX5_source_0 : decode cX5_source 0 = .ok (.iload_n 1, 1) := by decide +kernel
theorem dX5_source_1 : decode cX5_source 1 = .ok (.invokestatic 74, 3) := by decide +kernel
theorem dX5_source_4 : decode cX5_source 4 = .ok (.ifCond .ne 5, 3) := by decide +kernel
theorem dX5_source_7 : decode cX5_source 7 = .ok (.iconst (-1), 1) := by decide +kernel
theorem dX5_source_8 : decode cX5_source 8 = .ok (.ireturn, 1) := by decide +kernel
theorem dX5_source_9 : decode cX5_source 9 = .ok (.iload_n 2, 1) := by decide +kernel
theorem dX5_source_10 : decode cX5_source 10 = .ok (.aload_n 0, 1) := by decide +kernel
theorem dX5_source_11 : decode cX5_source 11 = .ok (.getfield 32, 3) := by decide +kernel
theorem dX5_source_14 : decode cX5_source 14 = .ok (.iload_n 1, 1) := by decide +kernel
theorem dX5_source_15 : decode cX5_source 15 = .ok (.iaload, 1) := by decide +kernel
theorem dX5_source_16 : decode cX5_source 16 = .ok (.if_icmp .le 30, 3) := by decide +kernel
theorem dX5_source_19 : decode cX5_source 19 = .ok (.iload_n 2, 1) := by decide +kernel
theorem dX5_source_20 : decode cX5_source 20 = .ok (.aload_n 0, 1) := by decide +kernel
theorem dX5_source_21 : decode cX5_source 21 = .ok (.getfield 41, 3) := by decide +kernel
theorem dX5_source_24 : decode cX5_source 24 = .ok (.iload_n 1, 1) := by decide +kernel
theorem dX5_source_25 : decode cX5_source 25 = .ok (.iaload, 1) := by decide +kernel
theorem dX5_source_26 : decode cX5_source 26 = .ok (.if_icmp .gt 20, 3) := by decide +kernel
theorem dX5_source_29 : decode cX5_source 29 = .ok (.aload_n 0, 1) := by decide +kernel
theorem dX5_source_30 : decode cX5_source 30 = .ok (.getfield 47, 3) := by decide +kernel
theorem dX5_source_33 : decode cX5_source 33 = .ok (.sipush 512, 3) := by decide +kernel
theorem dX5_source_36 : decode cX5_source 36 = .ok (.iload_n 1, 1) := by decide +kernel
theorem dX5_source_37 : decode cX5_source 37 = .ok (.imul, 1) := by decide +kernel
theorem dX5_source_38 : decode cX5_source 38 = .ok (.iload_n 2, 1) := by decide +kernel
theorem dX5_source_39 : decode cX5_source 39 = .ok (.iadd, 1) := by decide +kernel
theorem dX5_source_40 : decode cX5_source 40 = .ok (.iconst 1, 1) := by decide +kernel
theorem dX5_source_41 : decode cX5_source 41 = .ok (.isub, 1) := by decide +kernel
theorem dX5_source_42 : decode cX5_source 42 = .ok (.iaload, 1) := by decide +kernel
theorem dX5_source_43 : decode cX5_source 43 = .ok (.goto 5, 3) := by decide +kernel
theorem dX5_source_46 : decode cX5_source 46 = .ok (.bipush (-3), 2) := by decide +kernel
theorem dX5_source_48 : decode cX5_source 48 = .ok (.ireturn, 1) := by decide +kernel
theorem dX5_waiting_0 : decode cX5_waiting 0 = .ok (.iload_n 1, 1) := by decide +kernel
theorem dX5_waiting_1 : decode cX5_waiting 1 = .ok (.iload_n 2, 1) := by decide +kernel
theorem dX5_waiting_2 : decode cX5_waiting 2 = .ok (.invokestatic 78, 3) := by decide +kernel
theorem dX5_waiting_5 : decode cX5_waiting 5 = .ok (.ifCond .eq 27, 3) := by decide +kernel
theorem dX5_waiting_8 : decode cX5_waiting 8 = .ok (.aload_n 0, 1) := by decide +kernel
theorem dX5_waiting_9 : decode cX5_waiting 9 = .ok (.getfield 50, 3) := by decide +kernel
theorem dX5_waiting_12 : decode cX5_waiting 12 = .ok (.iconst 3, 1) := by decide +kernel
theorem dX5_waiting_13 : decode cX5_waiting 13 = .ok (.iload_n 1, 1) := by decide +kernel
theorem dX5_waiting_14 : decode cX5_waiting 14 = .ok (.imul, 1) := by decide +kernel
theorem dX5_waiting_15 : decode cX5_waiting 15 = .ok (.iload_n 2, 1) := by decide +kernel
theorem dX5_waiting_16 : decode cX5_waiting 16 = .ok (.iadd, 1) := by decide +kernel
theorem dX5_waiting_17 : decode cX5_waiting 17 = .ok (.iaload, 1) := by decide +kernel
theorem dX5_waiting_18 : decode cX5_waiting 18 = .ok (.aload_n 0, 1) := by decide +kernel
theorem dX5_waiting_19 : decode cX5_waiting 19 = .ok (.getfield 53, 3) := by decide +kernel
theorem dX5_waiting_22 : decode cX5_waiting 22 = .ok (.iconst 3, 1) := by decide +kernel
theorem dX5_waiting_23 : decode cX5_waiting 23 = .ok (.iload_n 1, 1) := by decide +kernel
theorem dX5_waiting_24 : decode cX5_waiting 24 = .ok (.imul, 1) := by decide +kernel
theorem dX5_waiting_25 : decode cX5_waiting 25 = .ok (.iload_n 2, 1) := by decide +kernel
theorem dX5_waiting_26 : decode cX5_waiting 26 = .ok (.iadd, 1) := by decide +kernel
theorem dX5_waiting_27 : decode cX5_waiting 27 = .ok (.iaload, 1) := by decide +kernel
theorem dX5_waiting_28 : decode cX5_waiting 28 = .ok (.isub, 1) := by decide +kernel
theorem dX5_waiting_29 : decode cX5_waiting 29 = .ok (.goto 4, 3) := by decide +kernel
theorem dX5_waiting_32 : decode cX5_waiting 32 = .ok (.iconst (-1), 1) := by decide +kernel
theorem dX5_waiting_33 : decode cX5_waiting 33 = .ok (.ireturn, 1) := by decide +kernel
theorem dX5_held_0 : decode cX5_held 0 = .ok (.iload_n 1, 1) := by decide +kernel
theorem dX5_held_1 : decode cX5_held 1 = .ok (.invokestatic 74, 3) := by decide +kernel
theorem dX5_held_4 : decode cX5_held 4 = .ok (.ifCond .eq 12, 3) := by decide +kernel
theorem dX5_held_7 : decode cX5_held 7 = .ok (.aload_n 0, 1) := by decide +kernel
theorem dX5_held_8 : decode cX5_held 8 = .ok (.getfield 38, 3) := by decide +kernel
theorem dX5_held_11 : decode cX5_held 11 = .ok (.iload_n 1, 1) := by decide +kernel
theorem dX5_held_12 : decode cX5_held 12 = .ok (.iaload, 1) := by decide +kernel
theorem dX5_held_13 : decode cX5_held 13 = .ok (.goto 4, 3) := by decide +kernel
theorem dX5_held_16 : decode cX5_held 16 = .ok (.iconst (-1), 1) := by decide +kernel
theorem dX5_held_17 : decode cX5_held 17 = .ok (.ireturn, 1) := by decide +kernel
theorem dX5_outputs_0 : decode cX5_outputs 0 = .ok (.aload_n 0, 1) := by decide +kernel
theorem dX5_outputs_1 : decode cX5_outputs 1 = .ok (.getfield 108, 3) := by decide +kernel
theorem dX5_outputs_4 : decode cX5_outputs 4 = .ok (.ireturn, 1) := by decide +kernel
theorem dX5_author_0 : decode cX5_author 0 = .ok (.iload_n 1, 1) := by decide +kernel
theorem dX5_author_1 : decode cX5_author 1 = .ok (.ifCond .lt 20, 3) := by decide +kernel
theorem dX5_author_4 : decode cX5_author 4 = .ok (.iload_n 1, 1) := by decide +kernel
theorem dX5_author_5 : decode cX5_author 5 = .ok (.aload_n 0, 1) := by decide +kernel
theorem dX5_author_6 : decode cX5_author 6 = .ok (.getfield 108, 3) := by decide +kernel
theorem dX5_author_9 : decode cX5_author 9 = .ok (.if_icmp .ge 12, 3) := by decide +kernel
theorem dX5_author_12 : decode cX5_author 12 = .ok (.aload_n 0, 1) := by decide +kernel
theorem dX5_author_13 : decode cX5_author 13 = .ok (.getfield 59, 3) := by decide +kernel
theorem dX5_author_16 : decode cX5_author 16 = .ok (.iload_n 1, 1) := by decide +kernel
theorem dX5_author_17 : decode cX5_author 17 = .ok (.iaload, 1) := by decide +kernel
theorem dX5_author_18 : decode cX5_author 18 = .ok (.goto 4, 3) := by decide +kernel
theorem dX5_author_21 : decode cX5_author 21 = .ok (.iconst (-1), 1) := by decide +kernel
theorem dX5_author_22 : decode cX5_author 22 = .ok (.ireturn, 1) := by decide +kernel
theorem dX5_output_0 : decode cX5_output 0 = .ok (.iload_n 1, 1) := by decide +kernel
theorem dX5_output_1 : decode cX5_output 1 = .ok (.ifCond .lt 20, 3) := by decide +kernel
theorem dX5_output_4 : decode cX5_output 4 = .ok (.iload_n 1, 1) := by decide +kernel
theorem dX5_output_5 : decode cX5_output 5 = .ok (.aload_n 0, 1) := by decide +kernel
theorem dX5_output_6 : decode cX5_output 6 = .ok (.getfield 108, 3) := by decide +kernel
theorem dX5_output_9 : decode cX5_output 9 = .ok (.if_icmp .ge 12, 3) := by decide +kernel
theorem dX5_output_12 : decode cX5_output 12 = .ok (.aload_n 0, 1) := by decide +kernel
theorem dX5_output_13 : decode cX5_output 13 = .ok (.getfield 62, 3) := by decide +kernel
theorem dX5_output_16 : decode cX5_output 16 = .ok (.iload_n 1, 1) := by decide +kernel
theorem dX5_output_17 : decode cX5_output 17 = .ok (.iaload, 1) := by decide +kernel
theorem dX5_output_18 : decode cX5_output 18 = .ok (.goto 4, 3) := by decide +kernel
theorem dX5_output_21 : decode cX5_output 21 = .ok (.iconst 0, 1) := by decide +kernel
theorem dX5_output_22 : decode cX5_output 22 = .ok (.ireturn, 1) := by decide +kernel
