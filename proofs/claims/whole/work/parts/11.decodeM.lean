theorem dMO_init_0 : decode cMO_init 0 = .ok (.aload_n 0, 1) := by decide +kernel
theorem dMO_init_1 : decode cMO_init 1 = .ok (.invokespecial 1, 3) := by decide +kernel
theorem dMO_init_4 : decode cMO_init 4 = .ok (.aload_n 0, 1) := by decide +kernel
theorem dMO_init_5 : decode cMO_init 5 = .ok (.bipush 6, 2) := by decide +kernel
theorem dMO_init_7 : decode cMO_init 7 = .ok (.newarray .int, 2) := by decide +kernel
theorem dMO_init_9 : decode cMO_init 9 = .ok (.putfield 7, 3) := by decide +kernel
theorem dMO_init_12 : decode cMO_init 12 = .ok (.aload_n 0, 1) := by decide +kernel
theorem dMO_init_13 : decode cMO_init 13 = .ok (.bipush 24, 2) := by decide +kernel
theorem dMO_init_15 : decode cMO_init 15 = .ok (.newarray .int, 2) := by decide +kernel
theorem dMO_init_17 : decode cMO_init 17 = .ok (.putfield 13, 3) := by decide +kernel
theorem dMO_init_20 : decode cMO_init 20 = .ok (.aload_n 0, 1) := by decide +kernel
theorem dMO_init_21 : decode cMO_init 21 = .ok (.bipush 24, 2) := by decide +kernel
theorem dMO_init_23 : decode cMO_init 23 = .ok (.newarray .int, 2) := by decide +kernel
theorem dMO_init_25 : decode cMO_init 25 = .ok (.putfield 16, 3) := by decide +kernel
theorem dMO_init_28 : decode cMO_init 28 = .ok (.aload_n 0, 1) := by decide +kernel
theorem dMO_init_29 : decode cMO_init 29 = .ok (.bipush 24, 2) := by decide +kernel
theorem dMO_init_31 : decode cMO_init 31 = .ok (.newarray .int, 2) := by decide +kernel
theorem dMO_init_33 : decode cMO_init 33 = .ok (.putfield 19, 3) := by decide +kernel
theorem dMO_init_36 : decode cMO_init 36 = .ok (.aload_n 0, 1) := by decide +kernel
theorem dMO_init_37 : decode cMO_init 37 = .ok (.bipush 24, 2) := by decide +kernel
theorem dMO_init_39 : decode cMO_init 39 = .ok (.newarray .int, 2) := by decide +kernel
theorem dMO_init_41 : decode cMO_init 41 = .ok (.putfield 22, 3) := by decide +kernel
theorem dMO_init_44 : decode cMO_init 44 = .ok (.aload_n 0, 1) := by decide +kernel
theorem dMO_init_45 : decode cMO_init 45 = .ok (.bipush 24, 2) := by decide +kernel
theorem dMO_init_47 : decode cMO_init 47 = .ok (.newarray .int, 2) := by decide +kernel
theorem dMO_init_49 : decode cMO_init 49 = .ok (.putfield 25, 3) := by decide +kernel
theorem dMO_init_52 : decode cMO_init 52 = .ok (.aload_n 0, 1) := by decide +kernel
theorem dMO_init_53 : decode cMO_init 53 = .ok (.bipush 40, 2) := by decide +kernel
theorem dMO_init_55 : decode cMO_init 55 = .ok (.newarray .int, 2) := by decide +kernel
theorem dMO_init_57 : decode cMO_init 57 = .ok (.putfield 28, 3) := by decide +kernel
theorem dMO_init_60 : decode cMO_init 60 = .ok (.aload_n 0, 1) := by decide +kernel
theorem dMO_init_61 : decode cMO_init 61 = .ok (.bipush 40, 2) := by decide +kernel
theorem dMO_init_63 : decode cMO_init 63 = .ok (.newarray .int, 2) := by decide +kernel
theorem dMO_init_65 : decode cMO_init 65 = .ok (.putfield 31, 3) := by decide +kernel
theorem dMO_init_68 : decode cMO_init 68 = .ok (.aload_n 0, 1) := by decide +kernel
theorem dMO_init_69 : decode cMO_init 69 = .ok (.bipush 8, 2) := by decide +kernel
theorem dMO_init_71 : decode cMO_init 71 = .ok (.newarray .int, 2) := by decide +kernel
theorem dMO_init_73 : decode cMO_init 73 = .ok (.putfield 34, 3) := by decide +kernel
theorem dMO_init_76 : decode cMO_init 76 = .ok (.aload_n 0, 1) := by decide +kernel
theorem dMO_init_77 : decode cMO_init 77 = .ok (.bipush 8, 2) := by decide +kernel
theorem dMO_init_79 : decode cMO_init 79 = .ok (.newarray .int, 2) := by decide +kernel
theorem dMO_init_81 : decode cMO_init 81 = .ok (.putfield 37, 3) := by decide +kernel
theorem dMO_init_84 : decode cMO_init 84 = .ok (.aload_n 0, 1) := by decide +kernel
theorem dMO_init_85 : decode cMO_init 85 = .ok (.bipush 8, 2) := by decide +kernel
theorem dMO_init_87 : decode cMO_init 87 = .ok (.newarray .int, 2) := by decide +kernel
theorem dMO_init_89 : decode cMO_init 89 = .ok (.putfield 40, 3) := by decide +kernel
theorem dMO_init_92 : decode cMO_init 92 = .ok (.aload_n 0, 1) := by decide +kernel
theorem dMO_init_93 : decode cMO_init 93 = .ok (.bipush 8, 2) := by decide +kernel
theorem dMO_init_95 : decode cMO_init 95 = .ok (.newarray .int, 2) := by decide +kernel
theorem dMO_init_97 : decode cMO_init 97 = .ok (.putfield 43, 3) := by decide +kernel
theorem dMO_init_100 : decode cMO_init 100 = .ok (.aload_n 0, 1) := by decide +kernel
theorem dMO_init_101 : decode cMO_init 101 = .ok (.bipush 8, 2) := by decide +kernel
theorem dMO_init_103 : decode cMO_init 103 = .ok (.newarray .boolean, 2) := by decide +kernel
theorem dMO_init_105 : decode cMO_init 105 = .ok (.putfield 46, 3) := by decide +kernel
theorem dMO_init_108 : decode cMO_init 108 = .ok (.aload_n 0, 1) := by decide +kernel
theorem dMO_init_109 : decode cMO_init 109 = .ok (.sipush 144, 3) := by decide +kernel
theorem dMO_init_112 : decode cMO_init 112 = .ok (.newarray .boolean, 2) := by decide +kernel
theorem dMO_init_114 : decode cMO_init 114 = .ok (.putfield 50, 3) := by decide +kernel
theorem dMO_init_117 : decode cMO_init 117 = .ok (.aload_n 0, 1) := by decide +kernel
theorem dMO_init_118 : decode cMO_init 118 = .ok (.sipush 144, 3) := by decide +kernel
theorem dMO_init_121 : decode cMO_init 121 = .ok (.newarray .boolean, 2) := by decide +kernel
theorem dMO_init_123 : decode cMO_init 123 = .ok (.putfield 53, 3) := by decide +kernel
theorem dMO_init_126 : decode cMO_init 126 = .ok (.aload_n 0, 1) := by decide +kernel
theorem dMO_init_127 : decode cMO_init 127 = .ok (.sipush 200, 3) := by decide +kernel
theorem dMO_init_130 : decode cMO_init 130 = .ok (.newarray .int, 2) := by decide +kernel
theorem dMO_init_132 : decode cMO_init 132 = .ok (.putfield 56, 3) := by decide +kernel
theorem dMO_init_135 : decode cMO_init 135 = .ok (.aload_n 0, 1) := by decide +kernel
theorem dMO_init_136 : decode cMO_init 136 = .ok (.sipush 200, 3) := by decide +kernel
theorem dMO_init_139 : decode cMO_init 139 = .ok (.newarray .int, 2) := by decide +kernel
theorem dMO_init_141 : decode cMO_init 141 = .ok (.putfield 59, 3) := by decide +kernel
theorem dMO_init_144 : decode cMO_init 144 = .ok (.aload_n 0, 1) := by decide +kernel
theorem dMO_init_145 : decode cMO_init 145 = .ok (.sipush 200, 3) := by decide +kernel
theorem dMO_init_148 : decode cMO_init 148 = .ok (.newarray .int, 2) := by decide +kernel
theorem dMO_init_150 : decode cMO_init 150 = .ok (.putfield 62, 3) := by decide +kernel
theorem dMO_init_153 : decode cMO_init 153 = .ok (.aload_n 0, 1) := by decide +kernel
theorem dMO_init_154 : decode cMO_init 154 = .ok (.sipush 200, 3) := by decide +kernel
theorem dMO_init_157 : decode cMO_init 157 = .ok (.newarray .int, 2) := by decide +kernel
theorem dMO_init_159 : decode cMO_init 159 = .ok (.putfield 65, 3) := by decide +kernel
theorem dMO_init_162 : decode cMO_init 162 = .ok (.iconst 0, 1) := by decide +kernel
theorem dMO_init_163 : decode cMO_init 163 = .ok (.istore_n 1, 1) := by decide +kernel
theorem dMO_init_164 : decode cMO_init 164 = .ok (.iload_n 1, 1) := by decide +kernel
theorem dMO_init_165 : decode cMO_init 165 = .ok (.bipush 8, 2) := by decide +kernel
theorem dMO_init_167 : decode cMO_init 167 = .ok (.if_icmp .ge 23, 3) := by decide +kernel
theorem dMO_init_170 : decode cMO_init 170 = .ok (.aload_n 0, 1) := by decide +kernel
theorem dMO_init_171 : decode cMO_init 171 = .ok (.getfield 40, 3) := by decide +kernel
theorem dMO_init_174 : decode cMO_init 174 = .ok (.iload_n 1, 1) := by decide +kernel
theorem dMO_init_175 : decode cMO_init 175 = .ok (.iconst (-1), 1) := by decide +kernel
theorem dMO_init_176 : decode cMO_init 176 = .ok (.iastore, 1) := by decide +kernel
theorem dMO_init_177 : decode cMO_init 177 = .ok (.aload_n 0, 1) := by decide +kernel
theorem dMO_init_178 : decode cMO_init 178 = .ok (.getfield 43, 3) := by decide +kernel
theorem dMO_init_181 : decode cMO_init 181 = .ok (.iload_n 1, 1) := by decide +kernel
theorem dMO_init_182 : decode cMO_init 182 = .ok (.iconst (-1), 1) := by decide +kernel
theorem dMO_init_183 : decode cMO_init 183 = .ok (.iastore, 1) := by decide +kernel
theorem dMO_init_184 : decode cMO_init 184 = .ok (.iinc 1 1, 3) := by decide +kernel
theorem dMO_init_187 : decode cMO_init 187 = .ok (.goto (-23), 3) := by decide +kernel
theorem dMO_init_190 : decode cMO_init 190 = .ok (.return_, 1) := by decide +kernel
theorem dMO_isPlatform_0 : decode cMO_isPlatform 0 = .ok (.iload_n 1, 1) := by decide +kernel
theorem dMO_isPlatform_1 : decode cMO_isPlatform 1 = .ok (.ifCond .lt 15, 3) := by decide +kernel
theorem dMO_isPlatform_4 : decode cMO_isPlatform 4 = .ok (.iload_n 1, 1) := by decide +kernel
theorem dMO_isPlatform_5 : decode cMO_isPlatform 5 = .ok (.aload_n 0, 1) := by decide +kernel
theorem dMO_isPlatform_6 : decode cMO_isPlatform 6 = .ok (.getfield 72, 3) := by decide +kernel
theorem dMO_isPlatform_9 : decode cMO_isPlatform 9 = .ok (.if_icmp .ge 7, 3) := by decide +kernel
theorem dMO_isPlatform_12 : decode cMO_isPlatform 12 = .ok (.iconst 1, 1) := by decide +kernel
theorem dMO_isPlatform_13 : decode cMO_isPlatform 13 = .ok (.goto 4, 3) := by decide +kernel
theorem dMO_isPlatform_16 : decode cMO_isPlatform 16 = .ok (.iconst 0, 1) := by decide +kernel
theorem dMO_isPlatform_17 : decode cMO_isPlatform 17 = .ok (.ireturn, 1) := by decide +kernel
theorem dMO_isTool_0 : decode cMO_isTool 0 = .ok (.iload_n 1, 1) := by decide +kernel
theorem dMO_isTool_1 : decode cMO_isTool 1 = .ok (.ifCond .lt 15, 3) := by decide +kernel
theorem dMO_isTool_4 : decode cMO_isTool 4 = .ok (.iload_n 1, 1) := by decide +kernel
theorem dMO_isTool_5 : decode cMO_isTool 5 = .ok (.aload_n 0, 1) := by decide +kernel
theorem dMO_isTool_6 : decode cMO_isTool 6 = .ok (.getfield 75, 3) := by decide +kernel
theorem dMO_isTool_9 : decode cMO_isTool 9 = .ok (.if_icmp .ge 7, 3) := by decide +kernel
theorem dMO_isTool_12 : decode cMO_isTool 12 = .ok (.iconst 1, 1) := by decide +kernel
theorem dMO_isTool_13 : decode cMO_isTool 13 = .ok (.goto 4, 3) := by decide +kernel
theorem dMO_isTool_16 : decode cMO_isTool 16 = .ok (.iconst 0, 1) := by decide +kernel
theorem dMO_isTool_17 : decode cMO_isTool 17 = .ok (.ireturn, 1) := by decide +kernel
theorem dMO_isKind_0 : decode cMO_isKind 0 = .ok (.iload_n 0, 1) := by decide +kernel
theorem dMO_isKind_1 : decode cMO_isKind 1 = .ok (.ifCond .lt 13, 3) := by decide +kernel
theorem dMO_isKind_4 : decode cMO_isKind 4 = .ok (.iload_n 0, 1) := by decide +kernel
theorem dMO_isKind_5 : decode cMO_isKind 5 = .ok (.bipush 8, 2) := by decide +kernel
theorem dMO_isKind_7 : decode cMO_isKind 7 = .ok (.if_icmp .ge 7, 3) := by decide +kernel
theorem dMO_isKind_10 : decode cMO_isKind 10 = .ok (.iconst 1, 1) := by decide +kernel
theorem dMO_isKind_11 : decode cMO_isKind 11 = .ok (.goto 4, 3) := by decide +kernel
theorem dMO_isKind_14 : decode cMO_isKind 14 = .ok (.iconst 0, 1) := by decide +kernel
theorem dMO_isKind_15 : decode cMO_isKind 15 = .ok (.ireturn, 1) := by decide +kernel
theorem dMO_platform_0 : decode cMO_platform 0 = .ok (.aload_n 0, 1) := by decide +kernel
theorem dMO_platform_1 : decode cMO_platform 1 = .ok (.iconst 0, 1) := by decide +kernel
theorem dMO_platform_2 : decode cMO_platform 2 = .ok (.putfield 68, 3) := by decide +kernel
theorem dMO_platform_5 : decode cMO_platform 5 = .ok (.aload_n 0, 1) := by decide +kernel
theorem dMO_platform_6 : decode cMO_platform 6 = .ok (.getfield 72, 3) := by decide +kernel
theorem dMO_platform_9 : decode cMO_platform 9 = .ok (.bipush 6, 2) := by decide +kernel
theorem dMO_platform_11 : decode cMO_platform 11 = .ok (.if_icmp .ne 5, 3) := by decide +kernel
theorem dMO_platform_14 : decode cMO_platform 14 = .ok (.iconst (-1), 1) := by decide +kernel
theorem dMO_platform_15 : decode cMO_platform 15 = .ok (.ireturn, 1) := by decide +kernel
theorem dMO_platform_16 : decode cMO_platform 16 = .ok (.aload_n 0, 1) := by decide +kernel
theorem dMO_platform_17 : decode cMO_platform 17 = .ok (.getfield 7, 3) := by decide +kernel
theorem dMO_platform_20 : decode cMO_platform 20 = .ok (.aload_n 0, 1) := by decide +kernel
theorem dMO_platform_21 : decode cMO_platform 21 = .ok (.getfield 72, 3) := by decide +kernel
theorem dMO_platform_24 : decode cMO_platform 24 = .ok (.iload_n 1, 1) := by decide +kernel
theorem dMO_platform_25 : decode cMO_platform 25 = .ok (.iastore, 1) := by decide +kernel
theorem dMO_platform_26 : decode cMO_platform 26 = .ok (.aload_n 0, 1) := by decide +kernel
theorem dMO_platform_27 : decode cMO_platform 27 = .ok (.dup, 1) := by decide +kernel
theorem dMO_platform_28 : decode cMO_platform 28 = .ok (.getfield 72, 3) := by decide +kernel
theorem dMO_platform_31 : decode cMO_platform 31 = .ok (.iconst 1, 1) := by decide +kernel
theorem dMO_platform_32 : decode cMO_platform 32 = .ok (.iadd, 1) := by decide +kernel
theorem dMO_platform_33 : decode cMO_platform 33 = .ok (.putfield 72, 3) := by decide +kernel
theorem dMO_platform_36 : decode cMO_platform 36 = .ok (.aload_n 0, 1) := by decide +kernel
theorem dMO_platform_37 : decode cMO_platform 37 = .ok (.getfield 72, 3) := by decide +kernel
theorem dMO_platform_40 : decode cMO_platform 40 = .ok (.iconst 1, 1) := by decide +kernel
theorem dMO_platform_41 : decode cMO_platform 41 = .ok (.isub, 1) := by decide +kernel
theorem dMO_platform_42 : decode cMO_platform 42 = .ok (.ireturn, 1) := by decide +kernel
theorem dMO_tool_0 : decode cMO_tool 0 = .ok (.aload_n 0, 1) := by decide +kernel
theorem dMO_tool_1 : decode cMO_tool 1 = .ok (.iconst 0, 1) := by decide +kernel
theorem dMO_tool_2 : decode cMO_tool 2 = .ok (.putfield 68, 3) := by decide +kernel
theorem dMO_tool_5 : decode cMO_tool 5 = .ok (.aload_n 0, 1) := by decide +kernel
theorem dMO_tool_6 : decode cMO_tool 6 = .ok (.getfield 75, 3) := by decide +kernel
theorem dMO_tool_9 : decode cMO_tool 9 = .ok (.bipush 24, 2) := by decide +kernel
theorem dMO_tool_11 : decode cMO_tool 11 = .ok (.if_icmp .eq 10, 3) := by decide +kernel
theorem dMO_tool_14 : decode cMO_tool 14 = .ok (.iload_n 1, 1) := by decide +kernel
theorem dMO_tool_15 : decode cMO_tool 15 = .ok (.invokestatic 78, 3) := by decide +kernel
theorem dMO_tool_18 : decode cMO_tool 18 = .ok (.ifCond .ne 5, 3) := by decide +kernel
theorem dMO_tool_21 : decode cMO_tool 21 = .ok (.iconst (-1), 1) := by decide +kernel
theorem dMO_tool_22 : decode cMO_tool 22 = .ok (.ireturn, 1) := by decide +kernel
theorem dMO_tool_23 : decode cMO_tool 23 = .ok (.aload_n 0, 1) := by decide +kernel
theorem dMO_tool_24 : decode cMO_tool 24 = .ok (.getfield 13, 3) := by decide +kernel
theorem dMO_tool_27 : decode cMO_tool 27 = .ok (.aload_n 0, 1) := by decide +kernel
theorem dMO_tool_28 : decode cMO_tool 28 = .ok (.getfield 75, 3) := by decide +kernel
theorem dMO_tool_31 : decode cMO_tool 31 = .ok (.iload_n 1, 1) := by decide +kernel
theorem dMO_tool_32 : decode cMO_tool 32 = .ok (.iastore, 1) := by decide +kernel
theorem dMO_tool_33 : decode cMO_tool 33 = .ok (.aload_n 0, 1) := by decide +kernel
theorem dMO_tool_34 : decode cMO_tool 34 = .ok (.getfield 16, 3) := by decide +kernel
theorem dMO_tool_37 : decode cMO_tool 37 = .ok (.aload_n 0, 1) := by decide +kernel
theorem dMO_tool_38 : decode cMO_tool 38 = .ok (.getfield 75, 3) := by decide +kernel
theorem dMO_tool_41 : decode cMO_tool 41 = .ok (.iload_n 2, 1) := by decide +kernel
theorem dMO_tool_42 : decode cMO_tool 42 = .ok (.iastore, 1) := by decide +kernel
theorem dMO_tool_43 : decode cMO_tool 43 = .ok (.aload_n 0, 1) := by decide +kernel
theorem dMO_tool_44 : decode cMO_tool 44 = .ok (.getfield 19, 3) := by decide +kernel
theorem dMO_tool_47 : decode cMO_tool 47 = .ok (.aload_n 0, 1) := by decide +kernel
theorem dMO_tool_48 : decode cMO_tool 48 = .ok (.getfield 75, 3) := by decide +kernel
theorem dMO_tool_51 : decode cMO_tool 51 = .ok (.iload_n 3, 1) := by decide +kernel
theorem dMO_tool_52 : decode cMO_tool 52 = .ok (.iastore, 1) := by decide +kernel
theorem dMO_tool_53 : decode cMO_tool 53 = .ok (.aload_n 0, 1) := by decide +kernel
theorem dMO_tool_54 : decode cMO_tool 54 = .ok (.getfield 22, 3) := by decide +kernel
theorem dMO_tool_57 : decode cMO_tool 57 = .ok (.aload_n 0, 1) := by decide +kernel
theorem dMO_tool_58 : decode cMO_tool 58 = .ok (.getfield 75, 3) := by decide +kernel
theorem dMO_tool_61 : decode cMO_tool 61 = .ok (.iload 4, 2) := by decide +kernel
theorem dMO_tool_63 : decode cMO_tool 63 = .ok (.iastore, 1) := by decide +kernel
theorem dMO_tool_64 : decode cMO_tool 64 = .ok (.aload_n 0, 1) := by decide +kernel
theorem dMO_tool_65 : decode cMO_tool 65 = .ok (.getfield 25, 3) := by decide +kernel
theorem dMO_tool_68 : decode cMO_tool 68 = .ok (.aload_n 0, 1) := by decide +kernel
theorem dMO_tool_69 : decode cMO_tool 69 = .ok (.getfield 75, 3) := by decide +kernel
theorem dMO_tool_72 : decode cMO_tool 72 = .ok (.aload_n 0, 1) := by decide +kernel
theorem dMO_tool_73 : decode cMO_tool 73 = .ok (.getfield 75, 3) := by decide +kernel
theorem dMO_tool_76 : decode cMO_tool 76 = .ok (.iastore, 1) := by decide +kernel
theorem dMO_tool_77 : decode cMO_tool 77 = .ok (.aload_n 0, 1) := by decide +kernel
theorem dMO_tool_78 : decode cMO_tool 78 = .ok (.dup, 1) := by decide +kernel
theorem dMO_tool_79 : decode cMO_tool 79 = .ok (.getfield 75, 3) := by decide +kernel
theorem dMO_tool_82 : decode cMO_tool 82 = .ok (.iconst 1, 1) := by decide +kernel
theorem dMO_tool_83 : decode cMO_tool 83 = .ok (.iadd, 1) := by decide +kernel
theorem dMO_tool_84 : decode cMO_tool 84 = .ok (.putfield 75, 3) := by decide +kernel
theorem dMO_tool_87 : decode cMO_tool 87 = .ok (.aload_n 0, 1) := by decide +kernel
theorem dMO_tool_88 : decode cMO_tool 88 = .ok (.getfield 75, 3) := by decide +kernel
theorem dMO_tool_91 : decode cMO_tool 91 = .ok (.iconst 1, 1) := by decide +kernel
theorem dMO_tool_92 : decode cMO_tool 92 = .ok (.isub, 1) := by decide +kernel
theorem dMO_tool_93 : decode cMO_tool 93 = .ok (.ireturn, 1) := by decide +kernel
theorem dMO_order_0 : decode cMO_order 0 = .ok (.aload_n 0, 1) := by decide +kernel
theorem dMO_order_1 : decode cMO_order 1 = .ok (.iconst 0, 1) := by decide +kernel
theorem dMO_order_2 : decode cMO_order 2 = .ok (.putfield 68, 3) := by decide +kernel
theorem dMO_order_5 : decode cMO_order 5 = .ok (.aload_n 0, 1) := by decide +kernel
theorem dMO_order_6 : decode cMO_order 6 = .ok (.iload_n 1, 1) := by decide +kernel
theorem dMO_order_7 : decode cMO_order 7 = .ok (.invokevirtual 82, 3) := by decide +kernel
theorem dMO_order_10 : decode cMO_order 10 = .ok (.ifCond .eq 11, 3) := by decide +kernel
theorem dMO_order_13 : decode cMO_order 13 = .ok (.aload_n 0, 1) := by decide +kernel
theorem dMO_order_14 : decode cMO_order 14 = .ok (.iload_n 2, 1) := by decide +kernel
theorem dMO_order_15 : decode cMO_order 15 = .ok (.invokevirtual 82, 3) := by decide +kernel
theorem dMO_order_18 : decode cMO_order 18 = .ok (.ifCond .ne 5, 3) := by decide +kernel
theorem dMO_order_21 : decode cMO_order 21 = .ok (.iconst 0, 1) := by decide +kernel
theorem dMO_order_22 : decode cMO_order 22 = .ok (.ireturn, 1) := by decide +kernel
theorem dMO_order_23 : decode cMO_order 23 = .ok (.iconst 0, 1) := by decide +kernel
theorem dMO_order_24 : decode cMO_order 24 = .ok (.istore_n 3, 1) := by decide +kernel
theorem dMO_order_25 : decode cMO_order 25 = .ok (.iconst 0, 1) := by decide +kernel
theorem dMO_order_26 : decode cMO_order 26 = .ok (.istore 4, 2) := by decide +kernel
theorem dMO_order_28 : decode cMO_order 28 = .ok (.iload 4, 2) := by decide +kernel
theorem dMO_order_30 : decode cMO_order 30 = .ok (.aload_n 0, 1) := by decide +kernel
theorem dMO_order_31 : decode cMO_order 31 = .ok (.getfield 75, 3) := by decide +kernel
theorem dMO_order_34 : decode cMO_order 34 = .ok (.if_icmp .ge 39, 3) := by decide +kernel
theorem dMO_order_37 : decode cMO_order 37 = .ok (.aload_n 0, 1) := by decide +kernel
theorem dMO_order_38 : decode cMO_order 38 = .ok (.getfield 25, 3) := by decide +kernel
theorem dMO_order_41 : decode cMO_order 41 = .ok (.iload 4, 2) := by decide +kernel
theorem dMO_order_43 : decode cMO_order 43 = .ok (.iaload, 1) := by decide +kernel
theorem dMO_order_44 : decode cMO_order 44 = .ok (.iload_n 1, 1) := by decide +kernel
theorem dMO_order_45 : decode cMO_order 45 = .ok (.if_icmp .ne 6, 3) := by decide +kernel
theorem dMO_order_48 : decode cMO_order 48 = .ok (.goto 19, 3) := by decide +kernel
theorem dMO_order_51 : decode cMO_order 51 = .ok (.aload_n 0, 1) := by decide +kernel
theorem dMO_order_52 : decode cMO_order 52 = .ok (.getfield 25, 3) := by decide +kernel
theorem dMO_order_55 : decode cMO_order 55 = .ok (.iload_n 3, 1) := by decide +kernel
theorem dMO_order_56 : decode cMO_order 56 = .ok (.aload_n 0, 1) := by decide +kernel
theorem dMO_order_57 : decode cMO_order 57 = .ok (.getfield 25, 3) := by decide +kernel
theorem dMO_order_60 : decode cMO_order 60 = .ok (.iload 4, 2) := by decide +kernel
theorem dMO_order_62 : decode cMO_order 62 = .ok (.iaload, 1) := by decide +kernel
theorem dMO_order_63 : decode cMO_order 63 = .ok (.iastore, 1) := by decide +kernel
theorem dMO_order_64 : decode cMO_order 64 = .ok (.iinc 3 1, 3) := by decide +kernel
theorem dMO_order_67 : decode cMO_order 67 = .ok (.iinc 4 1, 3) := by decide +kernel
theorem dMO_order_70 : decode cMO_order 70 = .ok (.goto (-42), 3) := by decide +kernel
theorem dMO_order_73 : decode cMO_order 73 = .ok (.iload_n 3, 1) := by decide +kernel
theorem dMO_order_74 : decode cMO_order 74 = .ok (.istore 4, 2) := by decide +kernel
theorem dMO_order_76 : decode cMO_order 76 = .ok (.iload 4, 2) := by decide +kernel
theorem dMO_order_78 : decode cMO_order 78 = .ok (.iload_n 2, 1) := by decide +kernel
theorem dMO_order_79 : decode cMO_order 79 = .ok (.if_icmp .le 25, 3) := by decide +kernel
theorem dMO_order_82 : decode cMO_order 82 = .ok (.aload_n 0, 1) := by decide +kernel
theorem dMO_order_83 : decode cMO_order 83 = .ok (.getfield 25, 3) := by decide +kernel
theorem dMO_order_86 : decode cMO_order 86 = .ok (.iload 4, 2) := by decide +kernel
theorem dMO_order_88 : decode cMO_order 88 = .ok (.aload_n 0, 1) := by decide +kernel
theorem dMO_order_89 : decode cMO_order 89 = .ok (.getfield 25, 3) := by decide +kernel
theorem dMO_order_92 : decode cMO_order 92 = .ok (.iload 4, 2) := by decide +kernel
theorem dMO_order_94 : decode cMO_order 94 = .ok (.iconst 1, 1) := by decide +kernel
theorem dMO_order_95 : decode cMO_order 95 = .ok (.isub, 1) := by decide +kernel
theorem dMO_order_96 : decode cMO_order 96 = .ok (.iaload, 1) := by decide +kernel
theorem dMO_order_97 : decode cMO_order 97 = .ok (.iastore, 1) := by decide +kernel
theorem dMO_order_98 : decode cMO_order 98 = .ok (.iinc 4 (-1), 3) := by decide +kernel
theorem dMO_order_101 : decode cMO_order 101 = .ok (.goto (-25), 3) := by decide +kernel
theorem dMO_order_104 : decode cMO_order 104 = .ok (.aload_n 0, 1) := by decide +kernel
theorem dMO_order_105 : decode cMO_order 105 = .ok (.getfield 25, 3) := by decide +kernel
theorem dMO_order_108 : decode cMO_order 108 = .ok (.iload_n 2, 1) := by decide +kernel
theorem dMO_order_109 : decode cMO_order 109 = .ok (.iload_n 1, 1) := by decide +kernel
theorem dMO_order_110 : decode cMO_order 110 = .ok (.iastore, 1) := by decide +kernel
theorem dMO_order_111 : decode cMO_order 111 = .ok (.iconst 1, 1) := by decide +kernel
theorem dMO_order_112 : decode cMO_order 112 = .ok (.ireturn, 1) := by decide +kernel
theorem dMO_wants_0 : decode cMO_wants 0 = .ok (.iconst 0, 1) := by decide +kernel
theorem dMO_wants_1 : decode cMO_wants 1 = .ok (.istore_n 3, 1) := by decide +kernel
theorem dMO_wants_2 : decode cMO_wants 2 = .ok (.iconst 0, 1) := by decide +kernel
theorem dMO_wants_3 : decode cMO_wants 3 = .ok (.istore 4, 2) := by decide +kernel
theorem dMO_wants_5 : decode cMO_wants 5 = .ok (.iload 4, 2) := by decide +kernel
theorem dMO_wants_7 : decode cMO_wants 7 = .ok (.aload_n 0, 1) := by decide +kernel
theorem dMO_wants_8 : decode cMO_wants 8 = .ok (.getfield 85, 3) := by decide +kernel
theorem dMO_wants_11 : decode cMO_wants 11 = .ok (.if_icmp .ge 41, 3) := by decide +kernel
theorem dMO_wants_14 : decode cMO_wants 14 = .ok (.iload_n 3, 1) := by decide +kernel
theorem dMO_wants_15 : decode cMO_wants 15 = .ok (.ifCond .ne 25, 3) := by decide +kernel
theorem dMO_wants_18 : decode cMO_wants 18 = .ok (.aload_n 0, 1) := by decide +kernel
theorem dMO_wants_19 : decode cMO_wants 19 = .ok (.getfield 28, 3) := by decide +kernel
theorem dMO_wants_22 : decode cMO_wants 22 = .ok (.iload 4, 2) := by decide +kernel
theorem dMO_wants_24 : decode cMO_wants 24 = .ok (.iaload, 1) := by decide +kernel
theorem dMO_wants_25 : decode cMO_wants 25 = .ok (.iload_n 1, 1) := by decide +kernel
theorem dMO_wants_26 : decode cMO_wants 26 = .ok (.if_icmp .ne 18, 3) := by decide +kernel
theorem dMO_wants_29 : decode cMO_wants 29 = .ok (.aload_n 0, 1) := by decide +kernel
theorem dMO_wants_30 : decode cMO_wants 30 = .ok (.getfield 31, 3) := by decide +kernel
theorem dMO_wants_33 : decode cMO_wants 33 = .ok (.iload 4, 2) := by decide +kernel
theorem dMO_wants_35 : decode cMO_wants 35 = .ok (.iaload, 1) := by decide +kernel
theorem dMO_wants_36 : decode cMO_wants 36 = .ok (.iload_n 2, 1) := by decide +kernel
theorem dMO_wants_37 : decode cMO_wants 37 = .ok (.if_icmp .ne 7, 3) := by decide +kernel
theorem dMO_wants_40 : decode cMO_wants 40 = .ok (.iconst 1, 1) := by decide +kernel
theorem dMO_wants_41 : decode cMO_wants 41 = .ok (.goto 4, 3) := by decide +kernel
theorem dMO_wants_44 : decode cMO_wants 44 = .ok (.iconst 0, 1) := by decide +kernel
theorem dMO_wants_45 : decode cMO_wants 45 = .ok (.istore_n 3, 1) := by decide +kernel
theorem dMO_wants_46 : decode cMO_wants 46 = .ok (.iinc 4 1, 3) := by decide +kernel
theorem dMO_wants_49 : decode cMO_wants 49 = .ok (.goto (-44), 3) := by decide +kernel
theorem dMO_wants_52 : decode cMO_wants 52 = .ok (.iload_n 3, 1) := by decide +kernel
theorem dMO_wants_53 : decode cMO_wants 53 = .ok (.ireturn, 1) := by decide +kernel
theorem dMO_needs_0 : decode cMO_needs 0 = .ok (.aload_n 0, 1) := by decide +kernel
theorem dMO_needs_1 : decode cMO_needs 1 = .ok (.iconst 0, 1) := by decide +kernel
theorem dMO_needs_2 : decode cMO_needs 2 = .ok (.putfield 68, 3) := by decide +kernel
theorem dMO_needs_5 : decode cMO_needs 5 = .ok (.aload_n 0, 1) := by decide +kernel
theorem dMO_needs_6 : decode cMO_needs 6 = .ok (.iload_n 1, 1) := by decide +kernel
theorem dMO_needs_7 : decode cMO_needs 7 = .ok (.invokevirtual 82, 3) := by decide +kernel
theorem dMO_needs_10 : decode cMO_needs 10 = .ok (.ifCond .eq 28, 3) := by decide +kernel
theorem dMO_needs_13 : decode cMO_needs 13 = .ok (.iload_n 2, 1) := by decide +kernel
theorem dMO_needs_14 : decode cMO_needs 14 = .ok (.invokestatic 78, 3) := by decide +kernel
theorem dMO_needs_17 : decode cMO_needs 17 = .ok (.ifCond .eq 21, 3) := by decide +kernel
theorem dMO_needs_20 : decode cMO_needs 20 = .ok (.aload_n 0, 1) := by decide +kernel
theorem dMO_needs_21 : decode cMO_needs 21 = .ok (.getfield 85, 3) := by decide +kernel
theorem dMO_needs_24 : decode cMO_needs 24 = .ok (.bipush 40, 2) := by decide +kernel
theorem dMO_needs_26 : decode cMO_needs 26 = .ok (.if_icmp .eq 12, 3) := by decide +kernel
theorem dMO_needs_29 : decode cMO_needs 29 = .ok (.aload_n 0, 1) := by decide +kernel
theorem dMO_needs_30 : decode cMO_needs 30 = .ok (.iload_n 1, 1) := by decide +kernel
theorem dMO_needs_31 : decode cMO_needs 31 = .ok (.iload_n 2, 1) := by decide +kernel
theorem dMO_needs_32 : decode cMO_needs 32 = .ok (.invokevirtual 88, 3) := by decide +kernel
theorem dMO_needs_35 : decode cMO_needs 35 = .ok (.ifCond .eq 5, 3) := by decide +kernel
theorem dMO_needs_38 : decode cMO_needs 38 = .ok (.iconst 0, 1) := by decide +kernel
theorem dMO_needs_39 : decode cMO_needs 39 = .ok (.ireturn, 1) := by decide +kernel
theorem dMO_needs_40 : decode cMO_needs 40 = .ok (.aload_n 0, 1) := by decide +kernel
theorem dMO_needs_41 : decode cMO_needs 41 = .ok (.getfield 28, 3) := by decide +kernel
theorem dMO_needs_44 : decode cMO_needs 44 = .ok (.aload_n 0, 1) := by decide +kernel
theorem dMO_needs_45 : decode cMO_needs 45 = .ok (.getfield 85, 3) := by decide +kernel
theorem dMO_needs_48 : decode cMO_needs 48 = .ok (.iload_n 1, 1) := by decide +kernel
theorem dMO_needs_49 : decode cMO_needs 49 = .ok (.iastore, 1) := by decide +kernel
theorem dMO_needs_50 : decode cMO_needs 50 = .ok (.aload_n 0, 1) := by decide +kernel
theorem dMO_needs_51 : decode cMO_needs 51 = .ok (.getfield 31, 3) := by decide +kernel
theorem dMO_needs_54 : decode cMO_needs 54 = .ok (.aload_n 0, 1) := by decide +kernel
theorem dMO_needs_55 : decode cMO_needs 55 = .ok (.getfield 85, 3) := by decide +kernel
theorem dMO_needs_58 : decode cMO_needs 58 = .ok (.iload_n 2, 1) := by decide +kernel
theorem dMO_needs_59 : decode cMO_needs 59 = .ok (.iastore, 1) := by decide +kernel
theorem dMO_needs_60 : decode cMO_needs 60 = .ok (.aload_n 0, 1) := by decide +kernel
theorem dMO_needs_61 : decode cMO_needs 61 = .ok (.dup, 1) := by decide +kernel
theorem dMO_needs_62 : decode cMO_needs 62 = .ok (.getfield 85, 3) := by decide +kernel
theorem dMO_needs_65 : decode cMO_needs 65 = .ok (.iconst 1, 1) := by decide +kernel
theorem dMO_needs_66 : decode cMO_needs 66 = .ok (.iadd, 1) := by decide +kernel
theorem dMO_needs_67 : decode cMO_needs 67 = .ok (.putfield 85, 3) := by decide +kernel
theorem dMO_needs_70 : decode cMO_needs 70 = .ok (.iconst 1, 1) := by decide +kernel
theorem dMO_needs_71 : decode cMO_needs 71 = .ok (.ireturn, 1) := by decide +kernel
theorem dMO_place_0 : decode cMO_place 0 = .ok (.iconst (-1), 1) := by decide +kernel
theorem dMO_place_1 : decode cMO_place 1 = .ok (.istore_n 2, 1) := by decide +kernel
theorem dMO_place_2 : decode cMO_place 2 = .ok (.iconst 0, 1) := by decide +kernel
theorem dMO_place_3 : decode cMO_place 3 = .ok (.istore_n 3, 1) := by decide +kernel
theorem dMO_place_4 : decode cMO_place 4 = .ok (.iload_n 3, 1) := by decide +kernel
theorem dMO_place_5 : decode cMO_place 5 = .ok (.aload_n 0, 1) := by decide +kernel
theorem dMO_place_6 : decode cMO_place 6 = .ok (.getfield 92, 3) := by decide +kernel
theorem dMO_place_9 : decode cMO_place 9 = .ok (.if_icmp .ge 25, 3) := by decide +kernel
theorem dMO_place_12 : decode cMO_place 12 = .ok (.aload_n 0, 1) := by decide +kernel
theorem dMO_place_13 : decode cMO_place 13 = .ok (.getfield 34, 3) := by decide +kernel
theorem dMO_place_16 : decode cMO_place 16 = .ok (.iload_n 3, 1) := by decide +kernel
theorem dMO_place_17 : decode cMO_place 17 = .ok (.iaload, 1) := by decide +kernel
theorem dMO_place_18 : decode cMO_place 18 = .ok (.iload_n 1, 1) := by decide +kernel
theorem dMO_place_19 : decode cMO_place 19 = .ok (.if_icmp .ne 7, 3) := by decide +kernel
theorem dMO_place_22 : decode cMO_place 22 = .ok (.iload_n 3, 1) := by decide +kernel
theorem dMO_place_23 : decode cMO_place 23 = .ok (.goto 4, 3) := by decide +kernel
theorem dMO_place_26 : decode cMO_place 26 = .ok (.iload_n 2, 1) := by decide +kernel
theorem dMO_place_27 : decode cMO_place 27 = .ok (.istore_n 2, 1) := by decide +kernel
theorem dMO_place_28 : decode cMO_place 28 = .ok (.iinc 3 1, 3) := by decide +kernel
theorem dMO_place_31 : decode cMO_place 31 = .ok (.goto (-27), 3) := by decide +kernel
theorem dMO_place_34 : decode cMO_place 34 = .ok (.iload_n 2, 1) := by decide +kernel
theorem dMO_place_35 : decode cMO_place 35 = .ok (.ireturn, 1) := by decide +kernel
theorem dMO_ask_0 : decode cMO_ask 0 = .ok (.aload_n 0, 1) := by decide +kernel
theorem dMO_ask_1 : decode cMO_ask 1 = .ok (.iconst 0, 1) := by decide +kernel
theorem dMO_ask_2 : decode cMO_ask 2 = .ok (.putfield 68, 3) := by decide +kernel
theorem dMO_ask_5 : decode cMO_ask 5 = .ok (.iload_n 1, 1) := by decide +kernel
theorem dMO_ask_6 : decode cMO_ask 6 = .ok (.invokestatic 78, 3) := by decide +kernel
theorem dMO_ask_9 : decode cMO_ask 9 = .ok (.ifCond .ne 5, 3) := by decide +kernel
theorem dMO_ask_12 : decode cMO_ask 12 = .ok (.iconst 0, 1) := by decide +kernel
theorem dMO_ask_13 : decode cMO_ask 13 = .ok (.ireturn, 1) := by decide +kernel
theorem dMO_ask_14 : decode cMO_ask 14 = .ok (.aload_n 0, 1) := by decide +kernel
theorem dMO_ask_15 : decode cMO_ask 15 = .ok (.iload_n 1, 1) := by decide +kernel
theorem dMO_ask_16 : decode cMO_ask 16 = .ok (.invokevirtual 95, 3) := by decide +kernel
theorem dMO_ask_19 : decode cMO_ask 19 = .ok (.iconst (-1), 1) := by decide +kernel
theorem dMO_ask_20 : decode cMO_ask 20 = .ok (.if_icmp .ne 23, 3) := by decide +kernel
theorem dMO_ask_23 : decode cMO_ask 23 = .ok (.aload_n 0, 1) := by decide +kernel
theorem dMO_ask_24 : decode cMO_ask 24 = .ok (.getfield 34, 3) := by decide +kernel
theorem dMO_ask_27 : decode cMO_ask 27 = .ok (.aload_n 0, 1) := by decide +kernel
theorem dMO_ask_28 : decode cMO_ask 28 = .ok (.getfield 92, 3) := by decide +kernel
theorem dMO_ask_31 : decode cMO_ask 31 = .ok (.iload_n 1, 1) := by decide +kernel
theorem dMO_ask_32 : decode cMO_ask 32 = .ok (.iastore, 1) := by decide +kernel
theorem dMO_ask_33 : decode cMO_ask 33 = .ok (.aload_n 0, 1) := by decide +kernel
theorem dMO_ask_34 : decode cMO_ask 34 = .ok (.dup, 1) := by decide +kernel
theorem dMO_ask_35 : decode cMO_ask 35 = .ok (.getfield 92, 3) := by decide +kernel
theorem dMO_ask_38 : decode cMO_ask 38 = .ok (.iconst 1, 1) := by decide +kernel
theorem dMO_ask_39 : decode cMO_ask 39 = .ok (.iadd, 1) := by decide +kernel
theorem dMO_ask_40 : decode cMO_ask 40 = .ok (.putfield 92, 3) := by decide +kernel
theorem dMO_ask_43 : decode cMO_ask 43 = .ok (.aload_n 0, 1) := by decide +kernel
theorem dMO_ask_44 : decode cMO_ask 44 = .ok (.getfield 37, 3) := by decide +kernel
theorem dMO_ask_47 : decode cMO_ask 47 = .ok (.iload_n 1, 1) := by decide +kernel
theorem dMO_ask_48 : decode cMO_ask 48 = .ok (.iload_n 2, 1) := by decide +kernel
theorem dMO_ask_49 : decode cMO_ask 49 = .ok (.iastore, 1) := by decide +kernel
theorem dMO_ask_50 : decode cMO_ask 50 = .ok (.aload_n 0, 1) := by decide +kernel
theorem dMO_ask_51 : decode cMO_ask 51 = .ok (.getfield 46, 3) := by decide +kernel
theorem dMO_ask_54 : decode cMO_ask 54 = .ok (.iload_n 1, 1) := by decide +kernel
theorem dMO_ask_55 : decode cMO_ask 55 = .ok (.iload_n 3, 1) := by decide +kernel
theorem dMO_ask_56 : decode cMO_ask 56 = .ok (.bastore, 1) := by decide +kernel
theorem dMO_ask_57 : decode cMO_ask 57 = .ok (.iconst 1, 1) := by decide +kernel
theorem dMO_ask_58 : decode cMO_ask 58 = .ok (.ireturn, 1) := by decide +kernel
theorem dMO_drop_0 : decode cMO_drop 0 = .ok (.aload_n 0, 1) := by decide +kernel
theorem dMO_drop_1 : decode cMO_drop 1 = .ok (.iconst 0, 1) := by decide +kernel
theorem dMO_drop_2 : decode cMO_drop 2 = .ok (.putfield 68, 3) := by decide +kernel
theorem dMO_drop_5 : decode cMO_drop 5 = .ok (.iload_n 1, 1) := by decide +kernel
theorem dMO_drop_6 : decode cMO_drop 6 = .ok (.invokestatic 78, 3) := by decide +kernel
theorem dMO_drop_9 : decode cMO_drop 9 = .ok (.ifCond .eq 11, 3) := by decide +kernel
theorem dMO_drop_12 : decode cMO_drop 12 = .ok (.aload_n 0, 1) := by decide +kernel
theorem dMO_drop_13 : decode cMO_drop 13 = .ok (.iload_n 1, 1) := by decide +kernel
theorem dMO_drop_14 : decode cMO_drop 14 = .ok (.invokevirtual 95, 3) := by decide +kernel
theorem dMO_drop_17 : decode cMO_drop 17 = .ok (.goto 4, 3) := by decide +kernel
theorem dMO_drop_20 : decode cMO_drop 20 = .ok (.iconst (-1), 1) := by decide +kernel
theorem dMO_drop_21 : decode cMO_drop 21 = .ok (.istore_n 2, 1) := by decide +kernel
theorem dMO_drop_22 : decode cMO_drop 22 = .ok (.iload_n 2, 1) := by decide +kernel
theorem dMO_drop_23 : decode cMO_drop 23 = .ok (.iconst (-1), 1) := by decide +kernel
theorem dMO_drop_24 : decode cMO_drop 24 = .ok (.if_icmp .ne 5, 3) := by decide +kernel
theorem dMO_drop_27 : decode cMO_drop 27 = .ok (.iconst 0, 1) := by decide +kernel
theorem dMO_drop_28 : decode cMO_drop 28 = .ok (.ireturn, 1) := by decide +kernel
theorem dMO_drop_29 : decode cMO_drop 29 = .ok (.iload_n 2, 1) := by decide +kernel
theorem dMO_drop_30 : decode cMO_drop 30 = .ok (.istore_n 3, 1) := by decide +kernel
theorem dMO_drop_31 : decode cMO_drop 31 = .ok (.iload_n 3, 1) := by decide +kernel
theorem dMO_drop_32 : decode cMO_drop 32 = .ok (.iconst 1, 1) := by decide +kernel
theorem dMO_drop_33 : decode cMO_drop 33 = .ok (.iadd, 1) := by decide +kernel
theorem dMO_drop_34 : decode cMO_drop 34 = .ok (.aload_n 0, 1) := by decide +kernel
theorem dMO_drop_35 : decode cMO_drop 35 = .ok (.getfield 92, 3) := by decide +kernel
theorem dMO_drop_38 : decode cMO_drop 38 = .ok (.if_icmp .ge 23, 3) := by decide +kernel
theorem dMO_drop_41 : decode cMO_drop 41 = .ok (.aload_n 0, 1) := by decide +kernel
theorem dMO_drop_42 : decode cMO_drop 42 = .ok (.getfield 34, 3) := by decide +kernel
theorem dMO_drop_45 : decode cMO_drop 45 = .ok (.iload_n 3, 1) := by decide +kernel
theorem dMO_drop_46 : decode cMO_drop 46 = .ok (.aload_n 0, 1) := by decide +kernel
theorem dMO_drop_47 : decode cMO_drop 47 = .ok (.getfield 34, 3) := by decide +kernel
theorem dMO_drop_50 : decode cMO_drop 50 = .ok (.iload_n 3, 1) := by decide +kernel
theorem dMO_drop_51 : decode cMO_drop 51 = .ok (.iconst 1, 1) := by decide +kernel
theorem dMO_drop_52 : decode cMO_drop 52 = .ok (.iadd, 1) := by decide +kernel
theorem dMO_drop_53 : decode cMO_drop 53 = .ok (.iaload, 1) := by decide +kernel
theorem dMO_drop_54 : decode cMO_drop 54 = .ok (.iastore, 1) := by decide +kernel
theorem dMO_drop_55 : decode cMO_drop 55 = .ok (.iinc 3 1, 3) := by decide +kernel
theorem dMO_drop_58 : decode cMO_drop 58 = .ok (.goto (-27), 3) := by decide +kernel
theorem dMO_drop_61 : decode cMO_drop 61 = .ok (.aload_n 0, 1) := by decide +kernel
theorem dMO_drop_62 : decode cMO_drop 62 = .ok (.dup, 1) := by decide +kernel
theorem dMO_drop_63 : decode cMO_drop 63 = .ok (.getfield 92, 3) := by decide +kernel
theorem dMO_drop_66 : decode cMO_drop 66 = .ok (.iconst 1, 1) := by decide +kernel
theorem dMO_drop_67 : decode cMO_drop 67 = .ok (.isub, 1) := by decide +kernel
theorem dMO_drop_68 : decode cMO_drop 68 = .ok (.putfield 92, 3) := by decide +kernel
theorem dMO_drop_71 : decode cMO_drop 71 = .ok (.iconst 1, 1) := by decide +kernel
theorem dMO_drop_72 : decode cMO_drop 72 = .ok (.ireturn, 1) := by decide +kernel
theorem dMO_force_0 : decode cMO_force 0 = .ok (.aload_n 0, 1) := by decide +kernel
theorem dMO_force_1 : decode cMO_force 1 = .ok (.iconst 0, 1) := by decide +kernel
theorem dMO_force_2 : decode cMO_force 2 = .ok (.putfield 68, 3) := by decide +kernel
theorem dMO_force_5 : decode cMO_force 5 = .ok (.iload_n 1, 1) := by decide +kernel
theorem dMO_force_6 : decode cMO_force 6 = .ok (.iconst (-1), 1) := by decide +kernel
theorem dMO_force_7 : decode cMO_force 7 = .ok (.if_icmp .ne 13, 3) := by decide +kernel
theorem dMO_force_10 : decode cMO_force 10 = .ok (.iload_n 2, 1) := by decide +kernel
theorem dMO_force_11 : decode cMO_force 11 = .ok (.invokestatic 78, 3) := by decide +kernel
theorem dMO_force_14 : decode cMO_force 14 = .ok (.ifCond .ne 16, 3) := by decide +kernel
theorem dMO_force_17 : decode cMO_force 17 = .ok (.goto 11, 3) := by decide +kernel
theorem dMO_force_20 : decode cMO_force 20 = .ok (.aload_n 0, 1) := by decide +kernel
theorem dMO_force_21 : decode cMO_force 21 = .ok (.iload_n 1, 1) := by decide +kernel
theorem dMO_force_22 : decode cMO_force 22 = .ok (.invokevirtual 82, 3) := by decide +kernel
theorem dMO_force_25 : decode cMO_force 25 = .ok (.ifCond .ne 5, 3) := by decide +kernel
theorem dMO_force_28 : decode cMO_force 28 = .ok (.iconst 0, 1) := by decide +kernel
theorem dMO_force_29 : decode cMO_force 29 = .ok (.ireturn, 1) := by decide +kernel
theorem dMO_force_30 : decode cMO_force 30 = .ok (.aload_n 0, 1) := by decide +kernel
theorem dMO_force_31 : decode cMO_force 31 = .ok (.getfield 40, 3) := by decide +kernel
theorem dMO_force_34 : decode cMO_force 34 = .ok (.iload_n 1, 1) := by decide +kernel
theorem dMO_force_35 : decode cMO_force 35 = .ok (.iconst (-1), 1) := by decide +kernel
theorem dMO_force_36 : decode cMO_force 36 = .ok (.if_icmp .ne 7, 3) := by decide +kernel
theorem dMO_force_39 : decode cMO_force 39 = .ok (.iload_n 2, 1) := by decide +kernel
theorem dMO_force_40 : decode cMO_force 40 = .ok (.goto 9, 3) := by decide +kernel
theorem dMO_force_43 : decode cMO_force 43 = .ok (.aload_n 0, 1) := by decide +kernel
theorem dMO_force_44 : decode cMO_force 44 = .ok (.getfield 13, 3) := by decide +kernel
theorem dMO_force_47 : decode cMO_force 47 = .ok (.iload_n 1, 1) := by decide +kernel
theorem dMO_force_48 : decode cMO_force 48 = .ok (.iaload, 1) := by decide +kernel
theorem dMO_force_49 : decode cMO_force 49 = .ok (.iload_n 1, 1) := by decide +kernel
theorem dMO_force_50 : decode cMO_force 50 = .ok (.iastore, 1) := by decide +kernel
theorem dMO_force_51 : decode cMO_force 51 = .ok (.iconst 1, 1) := by decide +kernel
theorem dMO_force_52 : decode cMO_force 52 = .ok (.ireturn, 1) := by decide +kernel
theorem dMO_lacking_0 : decode cMO_lacking 0 = .ok (.iconst 0, 1) := by decide +kernel
theorem dMO_lacking_1 : decode cMO_lacking 1 = .ok (.istore_n 3, 1) := by decide +kernel
theorem dMO_lacking_2 : decode cMO_lacking 2 = .ok (.iload_n 3, 1) := by decide +kernel
theorem dMO_lacking_3 : decode cMO_lacking 3 = .ok (.bipush 32, 2) := by decide +kernel
theorem dMO_lacking_5 : decode cMO_lacking 5 = .ok (.if_icmp .ge 33, 3) := by decide +kernel
theorem dMO_lacking_8 : decode cMO_lacking 8 = .ok (.iload_n 1, 1) := by decide +kernel
theorem dMO_lacking_9 : decode cMO_lacking 9 = .ok (.iload_n 3, 1) := by decide +kernel
theorem dMO_lacking_10 : decode cMO_lacking 10 = .ok (.ishr, 1) := by decide +kernel
theorem dMO_lacking_11 : decode cMO_lacking 11 = .ok (.iconst 1, 1) := by decide +kernel
theorem dMO_lacking_12 : decode cMO_lacking 12 = .ok (.iand, 1) := by decide +kernel
theorem dMO_lacking_13 : decode cMO_lacking 13 = .ok (.iconst 1, 1) := by decide +kernel
theorem dMO_lacking_14 : decode cMO_lacking 14 = .ok (.if_icmp .ne 18, 3) := by decide +kernel
theorem dMO_lacking_17 : decode cMO_lacking 17 = .ok (.aload_n 0, 1) := by decide +kernel
theorem dMO_lacking_18 : decode cMO_lacking 18 = .ok (.getfield 7, 3) := by decide +kernel
theorem dMO_lacking_21 : decode cMO_lacking 21 = .ok (.iload_n 2, 1) := by decide +kernel
theorem dMO_lacking_22 : decode cMO_lacking 22 = .ok (.iaload, 1) := by decide +kernel
theorem dMO_lacking_23 : decode cMO_lacking 23 = .ok (.iload_n 3, 1) := by decide +kernel
theorem dMO_lacking_24 : decode cMO_lacking 24 = .ok (.ishr, 1) := by decide +kernel
theorem dMO_lacking_25 : decode cMO_lacking 25 = .ok (.iconst 1, 1) := by decide +kernel
theorem dMO_lacking_26 : decode cMO_lacking 26 = .ok (.iand, 1) := by decide +kernel
theorem dMO_lacking_27 : decode cMO_lacking 27 = .ok (.ifCond .ne 5, 3) := by decide +kernel
theorem dMO_lacking_30 : decode cMO_lacking 30 = .ok (.iload_n 3, 1) := by decide +kernel
theorem dMO_lacking_31 : decode cMO_lacking 31 = .ok (.ireturn, 1) := by decide +kernel
theorem dMO_lacking_32 : decode cMO_lacking 32 = .ok (.iinc 3 1, 3) := by decide +kernel
theorem dMO_lacking_35 : decode cMO_lacking 35 = .ok (.goto (-33), 3) := by decide +kernel
theorem dMO_lacking_38 : decode cMO_lacking 38 = .ok (.iconst (-1), 1) := by decide +kernel
theorem dMO_lacking_39 : decode cMO_lacking 39 = .ok (.ireturn, 1) := by decide +kernel
theorem dMO_runsOn_0 : decode cMO_runsOn 0 = .ok (.aload_n 0, 1) := by decide +kernel
theorem dMO_runsOn_1 : decode cMO_runsOn 1 = .ok (.aload_n 0, 1) := by decide +kernel
theorem dMO_runsOn_2 : decode cMO_runsOn 2 = .ok (.getfield 16, 3) := by decide +kernel
theorem dMO_runsOn_5 : decode cMO_runsOn 5 = .ok (.iload_n 1, 1) := by decide +kernel
theorem dMO_runsOn_6 : decode cMO_runsOn 6 = .ok (.iaload, 1) := by decide +kernel
theorem dMO_runsOn_7 : decode cMO_runsOn 7 = .ok (.iload_n 2, 1) := by decide +kernel
theorem dMO_runsOn_8 : decode cMO_runsOn 8 = .ok (.invokevirtual 99, 3) := by decide +kernel
theorem dMO_runsOn_11 : decode cMO_runsOn 11 = .ok (.iconst (-1), 1) := by decide +kernel
theorem dMO_runsOn_12 : decode cMO_runsOn 12 = .ok (.if_icmp .ne 7, 3) := by decide +kernel
theorem dMO_runsOn_15 : decode cMO_runsOn 15 = .ok (.iconst 1, 1) := by decide +kernel
theorem dMO_runsOn_16 : decode cMO_runsOn 16 = .ok (.goto 4, 3) := by decide +kernel
theorem dMO_runsOn_19 : decode cMO_runsOn 19 = .ok (.iconst 0, 1) := by decide +kernel
theorem dMO_runsOn_20 : decode cMO_runsOn 20 = .ok (.ireturn, 1) := by decide +kernel
theorem dMO_makesFor_0 : decode cMO_makesFor 0 = .ok (.aload_n 0, 1) := by decide +kernel
theorem dMO_makesFor_1 : decode cMO_makesFor 1 = .ok (.aload_n 0, 1) := by decide +kernel
theorem dMO_makesFor_2 : decode cMO_makesFor 2 = .ok (.getfield 19, 3) := by decide +kernel
theorem dMO_makesFor_5 : decode cMO_makesFor 5 = .ok (.iload_n 1, 1) := by decide +kernel
theorem dMO_makesFor_6 : decode cMO_makesFor 6 = .ok (.iaload, 1) := by decide +kernel
theorem dMO_makesFor_7 : decode cMO_makesFor 7 = .ok (.iload_n 2, 1) := by decide +kernel
theorem dMO_makesFor_8 : decode cMO_makesFor 8 = .ok (.invokevirtual 99, 3) := by decide +kernel
theorem dMO_makesFor_11 : decode cMO_makesFor 11 = .ok (.iconst (-1), 1) := by decide +kernel
theorem dMO_makesFor_12 : decode cMO_makesFor 12 = .ok (.if_icmp .ne 7, 3) := by decide +kernel
theorem dMO_makesFor_15 : decode cMO_makesFor 15 = .ok (.iconst 1, 1) := by decide +kernel
theorem dMO_makesFor_16 : decode cMO_makesFor 16 = .ok (.goto 4, 3) := by decide +kernel
theorem dMO_makesFor_19 : decode cMO_makesFor 19 = .ok (.iconst 0, 1) := by decide +kernel
theorem dMO_makesFor_20 : decode cMO_makesFor 20 = .ok (.ireturn, 1) := by decide +kernel
theorem dMO_at_0 : decode cMO_at 0 = .ok (.bipush 6, 2) := by decide +kernel
theorem dMO_at_2 : decode cMO_at 2 = .ok (.iload_n 0, 1) := by decide +kernel
theorem dMO_at_3 : decode cMO_at 3 = .ok (.imul, 1) := by decide +kernel
theorem dMO_at_4 : decode cMO_at 4 = .ok (.iload_n 1, 1) := by decide +kernel
theorem dMO_at_5 : decode cMO_at 5 = .ok (.iadd, 1) := by decide +kernel
theorem dMO_at_6 : decode cMO_at 6 = .ok (.ireturn, 1) := by decide +kernel
theorem dMO_isThere_0 : decode cMO_isThere 0 = .ok (.iconst 0, 1) := by decide +kernel
theorem dMO_isThere_1 : decode cMO_isThere 1 = .ok (.istore_n 3, 1) := by decide +kernel
theorem dMO_isThere_2 : decode cMO_isThere 2 = .ok (.iconst 0, 1) := by decide +kernel
theorem dMO_isThere_3 : decode cMO_isThere 3 = .ok (.istore 4, 2) := by decide +kernel
theorem dMO_isThere_5 : decode cMO_isThere 5 = .ok (.iload 4, 2) := by decide +kernel
theorem dMO_isThere_7 : decode cMO_isThere 7 = .ok (.aload_n 0, 1) := by decide +kernel
theorem dMO_isThere_8 : decode cMO_isThere 8 = .ok (.getfield 75, 3) := by decide +kernel
theorem dMO_isThere_11 : decode cMO_isThere 11 = .ok (.if_icmp .ge 80, 3) := by decide +kernel
theorem dMO_isThere_14 : decode cMO_isThere 14 = .ok (.iload_n 3, 1) := by decide +kernel
theorem dMO_isThere_15 : decode cMO_isThere 15 = .ok (.ifCond .ne 76, 3) := by decide +kernel
theorem dMO_isThere_18 : decode cMO_isThere 18 = .ok (.aload_n 0, 1) := by decide +kernel
theorem dMO_isThere_19 : decode cMO_isThere 19 = .ok (.getfield 13, 3) := by decide +kernel
theorem dMO_isThere_22 : decode cMO_isThere 22 = .ok (.iload 4, 2) := by decide +kernel
theorem dMO_isThere_24 : decode cMO_isThere 24 = .ok (.iaload, 1) := by decide +kernel
theorem dMO_isThere_25 : decode cMO_isThere 25 = .ok (.iload_n 1, 1) := by decide +kernel
theorem dMO_isThere_26 : decode cMO_isThere 26 = .ok (.if_icmp .ne 59, 3) := by decide +kernel
theorem dMO_isThere_29 : decode cMO_isThere 29 = .ok (.aload_n 0, 1) := by decide +kernel
theorem dMO_isThere_30 : decode cMO_isThere 30 = .ok (.iload 4, 2) := by decide +kernel
theorem dMO_isThere_32 : decode cMO_isThere 32 = .ok (.iload_n 2, 1) := by decide +kernel
theorem dMO_isThere_33 : decode cMO_isThere 33 = .ok (.invokevirtual 103, 3) := by decide +kernel
theorem dMO_isThere_36 : decode cMO_isThere 36 = .ok (.ifCond .ne 6, 3) := by decide +kernel
theorem dMO_isThere_39 : decode cMO_isThere 39 = .ok (.goto 46, 3) := by decide +kernel
theorem dMO_isThere_42 : decode cMO_isThere 42 = .ok (.iconst 0, 1) := by decide +kernel
theorem dMO_isThere_43 : decode cMO_isThere 43 = .ok (.istore 5, 2) := by decide +kernel
theorem dMO_isThere_45 : decode cMO_isThere 45 = .ok (.iload 5, 2) := by decide +kernel
theorem dMO_isThere_47 : decode cMO_isThere 47 = .ok (.aload_n 0, 1) := by decide +kernel
theorem dMO_isThere_48 : decode cMO_isThere 48 = .ok (.getfield 72, 3) := by decide +kernel
theorem dMO_isThere_51 : decode cMO_isThere 51 = .ok (.if_icmp .ge 34, 3) := by decide +kernel
theorem dMO_isThere_54 : decode cMO_isThere 54 = .ok (.iload_n 3, 1) := by decide +kernel
theorem dMO_isThere_55 : decode cMO_isThere 55 = .ok (.ifCond .ne 18, 3) := by decide +kernel
theorem dMO_isThere_58 : decode cMO_isThere 58 = .ok (.aload_n 0, 1) := by decide +kernel
theorem dMO_isThere_59 : decode cMO_isThere 59 = .ok (.getfield 50, 3) := by decide +kernel
theorem dMO_isThere_62 : decode cMO_isThere 62 = .ok (.iload 4, 2) := by decide +kernel
theorem dMO_isThere_64 : decode cMO_isThere 64 = .ok (.iload 5, 2) := by decide +kernel
theorem dMO_isThere_66 : decode cMO_isThere 66 = .ok (.invokestatic 106, 3) := by decide +kernel
theorem dMO_isThere_69 : decode cMO_isThere 69 = .ok (.baload, 1) := by decide +kernel
theorem dMO_isThere_70 : decode cMO_isThere 70 = .ok (.ifCond .eq 7, 3) := by decide +kernel
theorem dMO_isThere_73 : decode cMO_isThere 73 = .ok (.iconst 1, 1) := by decide +kernel
theorem dMO_isThere_74 : decode cMO_isThere 74 = .ok (.goto 4, 3) := by decide +kernel
theorem dMO_isThere_77 : decode cMO_isThere 77 = .ok (.iconst 0, 1) := by decide +kernel
theorem dMO_isThere_78 : decode cMO_isThere 78 = .ok (.istore_n 3, 1) := by decide +kernel
theorem dMO_isThere_79 : decode cMO_isThere 79 = .ok (.iinc 5 1, 3) := by decide +kernel
theorem dMO_isThere_82 : decode cMO_isThere 82 = .ok (.goto (-37), 3) := by decide +kernel
theorem dMO_isThere_85 : decode cMO_isThere 85 = .ok (.iinc 4 1, 3) := by decide +kernel
theorem dMO_isThere_88 : decode cMO_isThere 88 = .ok (.goto (-83), 3) := by decide +kernel
theorem dMO_isThere_91 : decode cMO_isThere 91 = .ok (.iload_n 3, 1) := by decide +kernel
theorem dMO_isThere_92 : decode cMO_isThere 92 = .ok (.ireturn, 1) := by decide +kernel
theorem dMO_missing_0 : decode cMO_missing 0 = .ok (.iconst 0, 1) := by decide +kernel
theorem dMO_missing_1 : decode cMO_missing 1 = .ok (.istore_n 3, 1) := by decide +kernel
theorem dMO_missing_2 : decode cMO_missing 2 = .ok (.iload_n 3, 1) := by decide +kernel
theorem dMO_missing_3 : decode cMO_missing 3 = .ok (.bipush 8, 2) := by decide +kernel
theorem dMO_missing_5 : decode cMO_missing 5 = .ok (.if_icmp .ge 29, 3) := by decide +kernel
theorem dMO_missing_8 : decode cMO_missing 8 = .ok (.aload_n 0, 1) := by decide +kernel
theorem dMO_missing_9 : decode cMO_missing 9 = .ok (.iload_n 1, 1) := by decide +kernel
theorem dMO_missing_10 : decode cMO_missing 10 = .ok (.iload_n 3, 1) := by decide +kernel
theorem dMO_missing_11 : decode cMO_missing 11 = .ok (.invokevirtual 88, 3) := by decide +kernel
theorem dMO_missing_14 : decode cMO_missing 14 = .ok (.ifCond .eq 14, 3) := by decide +kernel
theorem dMO_missing_17 : decode cMO_missing 17 = .ok (.aload_n 0, 1) := by decide +kernel
theorem dMO_missing_18 : decode cMO_missing 18 = .ok (.iload_n 3, 1) := by decide +kernel
theorem dMO_missing_19 : decode cMO_missing 19 = .ok (.iload_n 2, 1) := by decide +kernel
theorem dMO_missing_20 : decode cMO_missing 20 = .ok (.invokevirtual 109, 3) := by decide +kernel
theorem dMO_missing_23 : decode cMO_missing 23 = .ok (.ifCond .ne 5, 3) := by decide +kernel
theorem dMO_missing_26 : decode cMO_missing 26 = .ok (.iload_n 3, 1) := by decide +kernel
theorem dMO_missing_27 : decode cMO_missing 27 = .ok (.ireturn, 1) := by decide +kernel
theorem dMO_missing_28 : decode cMO_missing 28 = .ok (.iinc 3 1, 3) := by decide +kernel
theorem dMO_missing_31 : decode cMO_missing 31 = .ok (.goto (-29), 3) := by decide +kernel
theorem dMO_missing_34 : decode cMO_missing 34 = .ok (.iconst (-1), 1) := by decide +kernel
theorem dMO_missing_35 : decode cMO_missing 35 = .ok (.ireturn, 1) := by decide +kernel
theorem dMO_build_0 : decode cMO_build 0 = .ok (.iconst 0, 1) := by decide +kernel
theorem dMO_build_1 : decode cMO_build 1 = .ok (.istore_n 1, 1) := by decide +kernel
theorem dMO_build_2 : decode cMO_build 2 = .ok (.iload_n 1, 1) := by decide +kernel
theorem dMO_build_3 : decode cMO_build 3 = .ok (.aload_n 0, 1) := by decide +kernel
theorem dMO_build_4 : decode cMO_build 4 = .ok (.getfield 50, 3) := by decide +kernel
theorem dMO_build_7 : decode cMO_build 7 = .ok (.arraylength, 1) := by decide +kernel
theorem dMO_build_8 : decode cMO_build 8 = .ok (.if_icmp .ge 16, 3) := by decide +kernel
theorem dMO_build_11 : decode cMO_build 11 = .ok (.aload_n 0, 1) := by decide +kernel
theorem dMO_build_12 : decode cMO_build 12 = .ok (.getfield 50, 3) := by decide +kernel
theorem dMO_build_15 : decode cMO_build 15 = .ok (.iload_n 1, 1) := by decide +kernel
theorem dMO_build_16 : decode cMO_build 16 = .ok (.iconst 0, 1) := by decide +kernel
theorem dMO_build_17 : decode cMO_build 17 = .ok (.bastore, 1) := by decide +kernel
theorem dMO_build_18 : decode cMO_build 18 = .ok (.iinc 1 1, 3) := by decide +kernel
theorem dMO_build_21 : decode cMO_build 21 = .ok (.goto (-19), 3) := by decide +kernel
theorem dMO_build_24 : decode cMO_build 24 = .ok (.iconst 1, 1) := by decide +kernel
theorem dMO_build_25 : decode cMO_build 25 = .ok (.istore_n 1, 1) := by decide +kernel
theorem dMO_build_26 : decode cMO_build 26 = .ok (.iload_n 1, 1) := by decide +kernel
theorem dMO_build_27 : decode cMO_build 27 = .ok (.ifCond .eq 88, 3) := by decide +kernel
theorem dMO_build_30 : decode cMO_build 30 = .ok (.iconst 0, 1) := by decide +kernel
theorem dMO_build_31 : decode cMO_build 31 = .ok (.istore_n 1, 1) := by decide +kernel
theorem dMO_build_32 : decode cMO_build 32 = .ok (.iconst 0, 1) := by decide +kernel
theorem dMO_build_33 : decode cMO_build 33 = .ok (.istore_n 2, 1) := by decide +kernel
theorem dMO_build_34 : decode cMO_build 34 = .ok (.iload_n 2, 1) := by decide +kernel
theorem dMO_build_35 : decode cMO_build 35 = .ok (.aload_n 0, 1) := by decide +kernel
theorem dMO_build_36 : decode cMO_build 36 = .ok (.getfield 75, 3) := by decide +kernel
theorem dMO_build_39 : decode cMO_build 39 = .ok (.if_icmp .ge 73, 3) := by decide +kernel
theorem dMO_build_42 : decode cMO_build 42 = .ok (.iconst 0, 1) := by decide +kernel
theorem dMO_build_43 : decode cMO_build 43 = .ok (.istore_n 3, 1) := by decide +kernel
theorem dMO_build_44 : decode cMO_build 44 = .ok (.iload_n 3, 1) := by decide +kernel
theorem dMO_build_45 : decode cMO_build 45 = .ok (.aload_n 0, 1) := by decide +kernel
theorem dMO_build_46 : decode cMO_build 46 = .ok (.getfield 72, 3) := by decide +kernel
theorem dMO_build_49 : decode cMO_build 49 = .ok (.if_icmp .ge 57, 3) := by decide +kernel
theorem dMO_build_52 : decode cMO_build 52 = .ok (.aload_n 0, 1) := by decide +kernel
theorem dMO_build_53 : decode cMO_build 53 = .ok (.getfield 50, 3) := by decide +kernel
theorem dMO_build_56 : decode cMO_build 56 = .ok (.iload_n 2, 1) := by decide +kernel
theorem dMO_build_57 : decode cMO_build 57 = .ok (.iload_n 3, 1) := by decide +kernel
theorem dMO_build_58 : decode cMO_build 58 = .ok (.invokestatic 106, 3) := by decide +kernel
theorem dMO_build_61 : decode cMO_build 61 = .ok (.baload, 1) := by decide +kernel
theorem dMO_build_62 : decode cMO_build 62 = .ok (.ifCond .ne 38, 3) := by decide +kernel
theorem dMO_build_65 : decode cMO_build 65 = .ok (.aload_n 0, 1) := by decide +kernel
theorem dMO_build_66 : decode cMO_build 66 = .ok (.iload_n 2, 1) := by decide +kernel
theorem dMO_build_67 : decode cMO_build 67 = .ok (.iload_n 3, 1) := by decide +kernel
theorem dMO_build_68 : decode cMO_build 68 = .ok (.invokevirtual 112, 3) := by decide +kernel
theorem dMO_build_71 : decode cMO_build 71 = .ok (.ifCond .eq 29, 3) := by decide +kernel
theorem dMO_build_74 : decode cMO_build 74 = .ok (.aload_n 0, 1) := by decide +kernel
theorem dMO_build_75 : decode cMO_build 75 = .ok (.iload_n 2, 1) := by decide +kernel
theorem dMO_build_76 : decode cMO_build 76 = .ok (.iload_n 3, 1) := by decide +kernel
theorem dMO_build_77 : decode cMO_build 77 = .ok (.invokevirtual 115, 3) := by decide +kernel
theorem dMO_build_80 : decode cMO_build 80 = .ok (.iconst (-1), 1) := by decide +kernel
theorem dMO_build_81 : decode cMO_build 81 = .ok (.if_icmp .eq 6, 3) := by decide +kernel
theorem dMO_build_84 : decode cMO_build 84 = .ok (.goto 16, 3) := by decide +kernel
theorem dMO_build_87 : decode cMO_build 87 = .ok (.aload_n 0, 1) := by decide +kernel
theorem dMO_build_88 : decode cMO_build 88 = .ok (.getfield 50, 3) := by decide +kernel
theorem dMO_build_91 : decode cMO_build 91 = .ok (.iload_n 2, 1) := by decide +kernel
theorem dMO_build_92 : decode cMO_build 92 = .ok (.iload_n 3, 1) := by decide +kernel
theorem dMO_build_93 : decode cMO_build 93 = .ok (.invokestatic 106, 3) := by decide +kernel
theorem dMO_build_96 : decode cMO_build 96 = .ok (.iconst 1, 1) := by decide +kernel
theorem dMO_build_97 : decode cMO_build 97 = .ok (.bastore, 1) := by decide +kernel
theorem dMO_build_98 : decode cMO_build 98 = .ok (.iconst 1, 1) := by decide +kernel
theorem dMO_build_99 : decode cMO_build 99 = .ok (.istore_n 1, 1) := by decide +kernel
theorem dMO_build_100 : decode cMO_build 100 = .ok (.iinc 3 1, 3) := by decide +kernel
theorem dMO_build_103 : decode cMO_build 103 = .ok (.goto (-59), 3) := by decide +kernel
theorem dMO_build_106 : decode cMO_build 106 = .ok (.iinc 2 1, 3) := by decide +kernel
theorem dMO_build_109 : decode cMO_build 109 = .ok (.goto (-75), 3) := by decide +kernel
theorem dMO_build_112 : decode cMO_build 112 = .ok (.goto (-86), 3) := by decide +kernel
theorem dMO_build_115 : decode cMO_build 115 = .ok (.return_, 1) := by decide +kernel
theorem dMO_built_0 : decode cMO_built 0 = .ok (.aload_n 0, 1) := by decide +kernel
theorem dMO_built_1 : decode cMO_built 1 = .ok (.iconst 0, 1) := by decide +kernel
theorem dMO_built_2 : decode cMO_built 2 = .ok (.putfield 68, 3) := by decide +kernel
theorem dMO_built_5 : decode cMO_built 5 = .ok (.aload_n 0, 1) := by decide +kernel
theorem dMO_built_6 : decode cMO_built 6 = .ok (.iload_n 1, 1) := by decide +kernel
theorem dMO_built_7 : decode cMO_built 7 = .ok (.invokevirtual 82, 3) := by decide +kernel
theorem dMO_built_10 : decode cMO_built 10 = .ok (.ifCond .eq 11, 3) := by decide +kernel
theorem dMO_built_13 : decode cMO_built 13 = .ok (.aload_n 0, 1) := by decide +kernel
theorem dMO_built_14 : decode cMO_built 14 = .ok (.iload_n 2, 1) := by decide +kernel
theorem dMO_built_15 : decode cMO_built 15 = .ok (.invokevirtual 118, 3) := by decide +kernel
theorem dMO_built_18 : decode cMO_built 18 = .ok (.ifCond .ne 5, 3) := by decide +kernel
theorem dMO_built_21 : decode cMO_built 21 = .ok (.iconst 0, 1) := by decide +kernel
theorem dMO_built_22 : decode cMO_built 22 = .ok (.ireturn, 1) := by decide +kernel
theorem dMO_built_23 : decode cMO_built 23 = .ok (.aload_n 0, 1) := by decide +kernel
theorem dMO_built_24 : decode cMO_built 24 = .ok (.invokevirtual 121, 3) := by decide +kernel
theorem dMO_built_27 : decode cMO_built 27 = .ok (.aload_n 0, 1) := by decide +kernel
theorem dMO_built_28 : decode cMO_built 28 = .ok (.getfield 50, 3) := by decide +kernel
theorem dMO_built_31 : decode cMO_built 31 = .ok (.iload_n 1, 1) := by decide +kernel
theorem dMO_built_32 : decode cMO_built 32 = .ok (.iload_n 2, 1) := by decide +kernel
theorem dMO_built_33 : decode cMO_built 33 = .ok (.invokestatic 106, 3) := by decide +kernel
theorem dMO_built_36 : decode cMO_built 36 = .ok (.baload, 1) := by decide +kernel
theorem dMO_built_37 : decode cMO_built 37 = .ok (.ireturn, 1) := by decide +kernel
theorem dMO_why_0 : decode cMO_why 0 = .ok (.aload_n 0, 1) := by decide +kernel
theorem dMO_why_1 : decode cMO_why 1 = .ok (.getfield 40, 3) := by decide +kernel
theorem dMO_why_4 : decode cMO_why 4 = .ok (.aload_n 0, 1) := by decide +kernel
theorem dMO_why_5 : decode cMO_why 5 = .ok (.getfield 13, 3) := by decide +kernel
theorem dMO_why_8 : decode cMO_why 8 = .ok (.iload_n 1, 1) := by decide +kernel
theorem dMO_why_9 : decode cMO_why 9 = .ok (.iaload, 1) := by decide +kernel
theorem dMO_why_10 : decode cMO_why 10 = .ok (.iaload, 1) := by decide +kernel
theorem dMO_why_11 : decode cMO_why 11 = .ok (.iconst (-1), 1) := by decide +kernel
theorem dMO_why_12 : decode cMO_why 12 = .ok (.if_icmp .eq 20, 3) := by decide +kernel
theorem dMO_why_15 : decode cMO_why 15 = .ok (.aload_n 0, 1) := by decide +kernel
theorem dMO_why_16 : decode cMO_why 16 = .ok (.getfield 40, 3) := by decide +kernel
theorem dMO_why_19 : decode cMO_why 19 = .ok (.aload_n 0, 1) := by decide +kernel
theorem dMO_why_20 : decode cMO_why 20 = .ok (.getfield 13, 3) := by decide +kernel
theorem dMO_why_23 : decode cMO_why 23 = .ok (.iload_n 1, 1) := by decide +kernel
theorem dMO_why_24 : decode cMO_why 24 = .ok (.iaload, 1) := by decide +kernel
theorem dMO_why_25 : decode cMO_why 25 = .ok (.iaload, 1) := by decide +kernel
theorem dMO_why_26 : decode cMO_why 26 = .ok (.iload_n 1, 1) := by decide +kernel
theorem dMO_why_27 : decode cMO_why 27 = .ok (.if_icmp .eq 5, 3) := by decide +kernel
theorem dMO_why_30 : decode cMO_why 30 = .ok (.iconst 1, 1) := by decide +kernel
theorem dMO_why_31 : decode cMO_why 31 = .ok (.ireturn, 1) := by decide +kernel
theorem dMO_why_32 : decode cMO_why 32 = .ok (.aload_n 0, 1) := by decide +kernel
theorem dMO_why_33 : decode cMO_why 33 = .ok (.getfield 22, 3) := by decide +kernel
theorem dMO_why_36 : decode cMO_why 36 = .ok (.iload_n 1, 1) := by decide +kernel
theorem dMO_why_37 : decode cMO_why 37 = .ok (.iaload, 1) := by decide +kernel
theorem dMO_why_38 : decode cMO_why 38 = .ok (.aload_n 0, 1) := by decide +kernel
theorem dMO_why_39 : decode cMO_why 39 = .ok (.getfield 37, 3) := by decide +kernel
theorem dMO_why_42 : decode cMO_why 42 = .ok (.aload_n 0, 1) := by decide +kernel
theorem dMO_why_43 : decode cMO_why 43 = .ok (.getfield 13, 3) := by decide +kernel
theorem dMO_why_46 : decode cMO_why 46 = .ok (.iload_n 1, 1) := by decide +kernel
theorem dMO_why_47 : decode cMO_why 47 = .ok (.iaload, 1) := by decide +kernel
theorem dMO_why_48 : decode cMO_why 48 = .ok (.iaload, 1) := by decide +kernel
theorem dMO_why_49 : decode cMO_why 49 = .ok (.if_icmp .ge 5, 3) := by decide +kernel
theorem dMO_why_52 : decode cMO_why 52 = .ok (.iconst 2, 1) := by decide +kernel
theorem dMO_why_53 : decode cMO_why 53 = .ok (.ireturn, 1) := by decide +kernel
theorem dMO_why_54 : decode cMO_why 54 = .ok (.aload_n 0, 1) := by decide +kernel
theorem dMO_why_55 : decode cMO_why 55 = .ok (.iload_n 1, 1) := by decide +kernel
theorem dMO_why_56 : decode cMO_why 56 = .ok (.iload_n 2, 1) := by decide +kernel
theorem dMO_why_57 : decode cMO_why 57 = .ok (.invokevirtual 112, 3) := by decide +kernel
theorem dMO_why_60 : decode cMO_why 60 = .ok (.ifCond .ne 5, 3) := by decide +kernel
theorem dMO_why_63 : decode cMO_why 63 = .ok (.iconst 3, 1) := by decide +kernel
theorem dMO_why_64 : decode cMO_why 64 = .ok (.ireturn, 1) := by decide +kernel
theorem dMO_why_65 : decode cMO_why 65 = .ok (.aload_n 0, 1) := by decide +kernel
theorem dMO_why_66 : decode cMO_why 66 = .ok (.iload_n 1, 1) := by decide +kernel
theorem dMO_why_67 : decode cMO_why 67 = .ok (.iload_n 3, 1) := by decide +kernel
theorem dMO_why_68 : decode cMO_why 68 = .ok (.invokevirtual 103, 3) := by decide +kernel
theorem dMO_why_71 : decode cMO_why 71 = .ok (.ifCond .ne 5, 3) := by decide +kernel
theorem dMO_why_74 : decode cMO_why 74 = .ok (.iconst 4, 1) := by decide +kernel
theorem dMO_why_75 : decode cMO_why 75 = .ok (.ireturn, 1) := by decide +kernel
theorem dMO_why_76 : decode cMO_why 76 = .ok (.aload_n 0, 1) := by decide +kernel
theorem dMO_why_77 : decode cMO_why 77 = .ok (.getfield 50, 3) := by decide +kernel
theorem dMO_why_80 : decode cMO_why 80 = .ok (.iload_n 1, 1) := by decide +kernel
theorem dMO_why_81 : decode cMO_why 81 = .ok (.iload_n 2, 1) := by decide +kernel
theorem dMO_why_82 : decode cMO_why 82 = .ok (.invokestatic 106, 3) := by decide +kernel
theorem dMO_why_85 : decode cMO_why 85 = .ok (.baload, 1) := by decide +kernel
theorem dMO_why_86 : decode cMO_why 86 = .ok (.ifCond .eq 7, 3) := by decide +kernel
theorem dMO_why_89 : decode cMO_why 89 = .ok (.iconst 0, 1) := by decide +kernel
theorem dMO_why_90 : decode cMO_why 90 = .ok (.goto 4, 3) := by decide +kernel
theorem dMO_why_93 : decode cMO_why 93 = .ok (.iconst 5, 1) := by decide +kernel
theorem dMO_why_94 : decode cMO_why 94 = .ok (.ireturn, 1) := by decide +kernel
theorem dMO_tell_0 : decode cMO_tell 0 = .ok (.aload_n 0, 1) := by decide +kernel
theorem dMO_tell_1 : decode cMO_tell 1 = .ok (.getfield 56, 3) := by decide +kernel
theorem dMO_tell_4 : decode cMO_tell 4 = .ok (.aload_n 0, 1) := by decide +kernel
theorem dMO_tell_5 : decode cMO_tell 5 = .ok (.getfield 124, 3) := by decide +kernel
theorem dMO_tell_8 : decode cMO_tell 8 = .ok (.iload_n 2, 1) := by decide +kernel
theorem dMO_tell_9 : decode cMO_tell 9 = .ok (.iastore, 1) := by decide +kernel
theorem dMO_tell_10 : decode cMO_tell 10 = .ok (.aload_n 0, 1) := by decide +kernel
theorem dMO_tell_11 : decode cMO_tell 11 = .ok (.getfield 59, 3) := by decide +kernel
theorem dMO_tell_14 : decode cMO_tell 14 = .ok (.aload_n 0, 1) := by decide +kernel
theorem dMO_tell_15 : decode cMO_tell 15 = .ok (.getfield 124, 3) := by decide +kernel
theorem dMO_tell_18 : decode cMO_tell 18 = .ok (.iload_n 1, 1) := by decide +kernel
theorem dMO_tell_19 : decode cMO_tell 19 = .ok (.iastore, 1) := by decide +kernel
theorem dMO_tell_20 : decode cMO_tell 20 = .ok (.aload_n 0, 1) := by decide +kernel
theorem dMO_tell_21 : decode cMO_tell 21 = .ok (.getfield 62, 3) := by decide +kernel
theorem dMO_tell_24 : decode cMO_tell 24 = .ok (.aload_n 0, 1) := by decide +kernel
theorem dMO_tell_25 : decode cMO_tell 25 = .ok (.getfield 124, 3) := by decide +kernel
theorem dMO_tell_28 : decode cMO_tell 28 = .ok (.iload 4, 2) := by decide +kernel
theorem dMO_tell_30 : decode cMO_tell 30 = .ok (.iastore, 1) := by decide +kernel
theorem dMO_tell_31 : decode cMO_tell 31 = .ok (.aload_n 0, 1) := by decide +kernel
theorem dMO_tell_32 : decode cMO_tell 32 = .ok (.getfield 65, 3) := by decide +kernel
theorem dMO_tell_35 : decode cMO_tell 35 = .ok (.aload_n 0, 1) := by decide +kernel
theorem dMO_tell_36 : decode cMO_tell 36 = .ok (.getfield 124, 3) := by decide +kernel
theorem dMO_tell_39 : decode cMO_tell 39 = .ok (.iload 4, 2) := by decide +kernel
theorem dMO_tell_41 : decode cMO_tell 41 = .ok (.iconst 3, 1) := by decide +kernel
theorem dMO_tell_42 : decode cMO_tell 42 = .ok (.if_icmp .ne 17, 3) := by decide +kernel
theorem dMO_tell_45 : decode cMO_tell 45 = .ok (.aload_n 0, 1) := by decide +kernel
theorem dMO_tell_46 : decode cMO_tell 46 = .ok (.aload_n 0, 1) := by decide +kernel
theorem dMO_tell_47 : decode cMO_tell 47 = .ok (.getfield 16, 3) := by decide +kernel
theorem dMO_tell_50 : decode cMO_tell 50 = .ok (.iload_n 1, 1) := by decide +kernel
theorem dMO_tell_51 : decode cMO_tell 51 = .ok (.iaload, 1) := by decide +kernel
theorem dMO_tell_52 : decode cMO_tell 52 = .ok (.iload_n 2, 1) := by decide +kernel
theorem dMO_tell_53 : decode cMO_tell 53 = .ok (.invokevirtual 99, 3) := by decide +kernel
theorem dMO_tell_56 : decode cMO_tell 56 = .ok (.goto 39, 3) := by decide +kernel
theorem dMO_tell_59 : decode cMO_tell 59 = .ok (.iload 4, 2) := by decide +kernel
theorem dMO_tell_61 : decode cMO_tell 61 = .ok (.iconst 4, 1) := by decide +kernel
theorem dMO_tell_62 : decode cMO_tell 62 = .ok (.if_icmp .ne 17, 3) := by decide +kernel
theorem dMO_tell_65 : decode cMO_tell 65 = .ok (.aload_n 0, 1) := by decide +kernel
theorem dMO_tell_66 : decode cMO_tell 66 = .ok (.aload_n 0, 1) := by decide +kernel
theorem dMO_tell_67 : decode cMO_tell 67 = .ok (.getfield 19, 3) := by decide +kernel
theorem dMO_tell_70 : decode cMO_tell 70 = .ok (.iload_n 1, 1) := by decide +kernel
theorem dMO_tell_71 : decode cMO_tell 71 = .ok (.iaload, 1) := by decide +kernel
theorem dMO_tell_72 : decode cMO_tell 72 = .ok (.iload_n 3, 1) := by decide +kernel
theorem dMO_tell_73 : decode cMO_tell 73 = .ok (.invokevirtual 99, 3) := by decide +kernel
theorem dMO_tell_76 : decode cMO_tell 76 = .ok (.goto 19, 3) := by decide +kernel
theorem dMO_tell_79 : decode cMO_tell 79 = .ok (.iload 4, 2) := by decide +kernel
theorem dMO_tell_81 : decode cMO_tell 81 = .ok (.iconst 5, 1) := by decide +kernel
theorem dMO_tell_82 : decode cMO_tell 82 = .ok (.if_icmp .ne 12, 3) := by decide +kernel
theorem dMO_tell_85 : decode cMO_tell 85 = .ok (.aload_n 0, 1) := by decide +kernel
theorem dMO_tell_86 : decode cMO_tell 86 = .ok (.iload_n 1, 1) := by decide +kernel
theorem dMO_tell_87 : decode cMO_tell 87 = .ok (.iload_n 2, 1) := by decide +kernel
theorem dMO_tell_88 : decode cMO_tell 88 = .ok (.invokevirtual 115, 3) := by decide +kernel
theorem dMO_tell_91 : decode cMO_tell 91 = .ok (.goto 4, 3) := by decide +kernel
theorem dMO_tell_94 : decode cMO_tell 94 = .ok (.iconst (-1), 1) := by decide +kernel
theorem dMO_tell_95 : decode cMO_tell 95 = .ok (.iastore, 1) := by decide +kernel
theorem dMO_tell_96 : decode cMO_tell 96 = .ok (.aload_n 0, 1) := by decide +kernel
theorem dMO_tell_97 : decode cMO_tell 97 = .ok (.dup, 1) := by decide +kernel
theorem dMO_tell_98 : decode cMO_tell 98 = .ok (.getfield 124, 3) := by decide +kernel
theorem dMO_tell_101 : decode cMO_tell 101 = .ok (.iconst 1, 1) := by decide +kernel
theorem dMO_tell_102 : decode cMO_tell 102 = .ok (.iadd, 1) := by decide +kernel
theorem dMO_tell_103 : decode cMO_tell 103 = .ok (.putfield 124, 3) := by decide +kernel
theorem dMO_tell_106 : decode cMO_tell 106 = .ok (.return_, 1) := by decide +kernel
theorem dMO_look_0 : decode cMO_look 0 = .ok (.iconst 0, 1) := by decide +kernel
theorem dMO_look_1 : decode cMO_look 1 = .ok (.istore 4, 2) := by decide +kernel
theorem dMO_look_3 : decode cMO_look 3 = .ok (.iload 4, 2) := by decide +kernel
theorem dMO_look_5 : decode cMO_look 5 = .ok (.aload_n 0, 1) := by decide +kernel
theorem dMO_look_6 : decode cMO_look 6 = .ok (.getfield 75, 3) := by decide +kernel
theorem dMO_look_9 : decode cMO_look 9 = .ok (.if_icmp .ge 60, 3) := by decide +kernel
theorem dMO_look_12 : decode cMO_look 12 = .ok (.aload_n 0, 1) := by decide +kernel
theorem dMO_look_13 : decode cMO_look 13 = .ok (.getfield 25, 3) := by decide +kernel
theorem dMO_look_16 : decode cMO_look 16 = .ok (.iload 4, 2) := by decide +kernel
theorem dMO_look_18 : decode cMO_look 18 = .ok (.iaload, 1) := by decide +kernel
theorem dMO_look_19 : decode cMO_look 19 = .ok (.istore 5, 2) := by decide +kernel
theorem dMO_look_21 : decode cMO_look 21 = .ok (.aload_n 0, 1) := by decide +kernel
theorem dMO_look_22 : decode cMO_look 22 = .ok (.getfield 13, 3) := by decide +kernel
theorem dMO_look_25 : decode cMO_look 25 = .ok (.iload 5, 2) := by decide +kernel
theorem dMO_look_27 : decode cMO_look 27 = .ok (.iaload, 1) := by decide +kernel
theorem dMO_look_28 : decode cMO_look 28 = .ok (.iload_n 1, 1) := by decide +kernel
theorem dMO_look_29 : decode cMO_look 29 = .ok (.if_icmp .eq 6, 3) := by decide +kernel
theorem dMO_look_32 : decode cMO_look 32 = .ok (.goto 31, 3) := by decide +kernel
theorem dMO_look_35 : decode cMO_look 35 = .ok (.aload_n 0, 1) := by decide +kernel
theorem dMO_look_36 : decode cMO_look 36 = .ok (.iload 5, 2) := by decide +kernel
theorem dMO_look_38 : decode cMO_look 38 = .ok (.iload_n 2, 1) := by decide +kernel
theorem dMO_look_39 : decode cMO_look 39 = .ok (.iload_n 3, 1) := by decide +kernel
theorem dMO_look_40 : decode cMO_look 40 = .ok (.invokevirtual 127, 3) := by decide +kernel
theorem dMO_look_43 : decode cMO_look 43 = .ok (.istore 6, 2) := by decide +kernel
theorem dMO_look_45 : decode cMO_look 45 = .ok (.aload_n 0, 1) := by decide +kernel
theorem dMO_look_46 : decode cMO_look 46 = .ok (.iload 5, 2) := by decide +kernel
theorem dMO_look_48 : decode cMO_look 48 = .ok (.iload_n 2, 1) := by decide +kernel
theorem dMO_look_49 : decode cMO_look 49 = .ok (.iload_n 3, 1) := by decide +kernel
theorem dMO_look_50 : decode cMO_look 50 = .ok (.iload 6, 2) := by decide +kernel
theorem dMO_look_52 : decode cMO_look 52 = .ok (.invokevirtual 131, 3) := by decide +kernel
theorem dMO_look_55 : decode cMO_look 55 = .ok (.iload 6, 2) := by decide +kernel
theorem dMO_look_57 : decode cMO_look 57 = .ok (.ifCond .ne 6, 3) := by decide +kernel
theorem dMO_look_60 : decode cMO_look 60 = .ok (.iload 5, 2) := by decide +kernel
theorem dMO_look_62 : decode cMO_look 62 = .ok (.ireturn, 1) := by decide +kernel
theorem dMO_look_63 : decode cMO_look 63 = .ok (.iinc 4 1, 3) := by decide +kernel
theorem dMO_look_66 : decode cMO_look 66 = .ok (.goto (-63), 3) := by decide +kernel
theorem dMO_look_69 : decode cMO_look 69 = .ok (.iconst (-1), 1) := by decide +kernel
theorem dMO_look_70 : decode cMO_look 70 = .ok (.ireturn, 1) := by decide +kernel
theorem dMO_tryOn_0 : decode cMO_tryOn 0 = .ok (.iconst 0, 1) := by decide +kernel
theorem dMO_tryOn_1 : decode cMO_tryOn 1 = .ok (.istore_n 3, 1) := by decide +kernel
theorem dMO_tryOn_2 : decode cMO_tryOn 2 = .ok (.iload_n 3, 1) := by decide +kernel
theorem dMO_tryOn_3 : decode cMO_tryOn 3 = .ok (.bipush 8, 2) := by decide +kernel
theorem dMO_tryOn_5 : decode cMO_tryOn 5 = .ok (.if_icmp .ge 16, 3) := by decide +kernel
theorem dMO_tryOn_8 : decode cMO_tryOn 8 = .ok (.aload_n 0, 1) := by decide +kernel
theorem dMO_tryOn_9 : decode cMO_tryOn 9 = .ok (.getfield 43, 3) := by decide +kernel
theorem dMO_tryOn_12 : decode cMO_tryOn 12 = .ok (.iload_n 3, 1) := by decide +kernel
theorem dMO_tryOn_13 : decode cMO_tryOn 13 = .ok (.iconst (-1), 1) := by decide +kernel
theorem dMO_tryOn_14 : decode cMO_tryOn 14 = .ok (.iastore, 1) := by decide +kernel
theorem dMO_tryOn_15 : decode cMO_tryOn 15 = .ok (.iinc 3 1, 3) := by decide +kernel
theorem dMO_tryOn_18 : decode cMO_tryOn 18 = .ok (.goto (-16), 3) := by decide +kernel
theorem dMO_tryOn_21 : decode cMO_tryOn 21 = .ok (.iconst 0, 1) := by decide +kernel
theorem dMO_tryOn_22 : decode cMO_tryOn 22 = .ok (.istore_n 3, 1) := by decide +kernel
theorem dMO_tryOn_23 : decode cMO_tryOn 23 = .ok (.iload_n 3, 1) := by decide +kernel
theorem dMO_tryOn_24 : decode cMO_tryOn 24 = .ok (.aload_n 0, 1) := by decide +kernel
theorem dMO_tryOn_25 : decode cMO_tryOn 25 = .ok (.getfield 92, 3) := by decide +kernel
theorem dMO_tryOn_28 : decode cMO_tryOn 28 = .ok (.if_icmp .ge 55, 3) := by decide +kernel
theorem dMO_tryOn_31 : decode cMO_tryOn 31 = .ok (.aload_n 0, 1) := by decide +kernel
theorem dMO_tryOn_32 : decode cMO_tryOn 32 = .ok (.getfield 34, 3) := by decide +kernel
theorem dMO_tryOn_35 : decode cMO_tryOn 35 = .ok (.iload_n 3, 1) := by decide +kernel
theorem dMO_tryOn_36 : decode cMO_tryOn 36 = .ok (.iaload, 1) := by decide +kernel
theorem dMO_tryOn_37 : decode cMO_tryOn 37 = .ok (.istore 4, 2) := by decide +kernel
theorem dMO_tryOn_39 : decode cMO_tryOn 39 = .ok (.aload_n 0, 1) := by decide +kernel
theorem dMO_tryOn_40 : decode cMO_tryOn 40 = .ok (.getfield 43, 3) := by decide +kernel
theorem dMO_tryOn_43 : decode cMO_tryOn 43 = .ok (.iload 4, 2) := by decide +kernel
theorem dMO_tryOn_45 : decode cMO_tryOn 45 = .ok (.aload_n 0, 1) := by decide +kernel
theorem dMO_tryOn_46 : decode cMO_tryOn 46 = .ok (.iload 4, 2) := by decide +kernel
theorem dMO_tryOn_48 : decode cMO_tryOn 48 = .ok (.iload_n 1, 1) := by decide +kernel
theorem dMO_tryOn_49 : decode cMO_tryOn 49 = .ok (.iload_n 2, 1) := by decide +kernel
theorem dMO_tryOn_50 : decode cMO_tryOn 50 = .ok (.invokevirtual 135, 3) := by decide +kernel
theorem dMO_tryOn_53 : decode cMO_tryOn 53 = .ok (.iastore, 1) := by decide +kernel
theorem dMO_tryOn_54 : decode cMO_tryOn 54 = .ok (.aload_n 0, 1) := by decide +kernel
theorem dMO_tryOn_55 : decode cMO_tryOn 55 = .ok (.getfield 43, 3) := by decide +kernel
theorem dMO_tryOn_58 : decode cMO_tryOn 58 = .ok (.iload 4, 2) := by decide +kernel
theorem dMO_tryOn_60 : decode cMO_tryOn 60 = .ok (.iaload, 1) := by decide +kernel
theorem dMO_tryOn_61 : decode cMO_tryOn 61 = .ok (.iconst (-1), 1) := by decide +kernel
theorem dMO_tryOn_62 : decode cMO_tryOn 62 = .ok (.if_icmp .ne 15, 3) := by decide +kernel
theorem dMO_tryOn_65 : decode cMO_tryOn 65 = .ok (.aload_n 0, 1) := by decide +kernel
theorem dMO_tryOn_66 : decode cMO_tryOn 66 = .ok (.getfield 46, 3) := by decide +kernel
theorem dMO_tryOn_69 : decode cMO_tryOn 69 = .ok (.iload 4, 2) := by decide +kernel
theorem dMO_tryOn_71 : decode cMO_tryOn 71 = .ok (.baload, 1) := by decide +kernel
theorem dMO_tryOn_72 : decode cMO_tryOn 72 = .ok (.ifCond .eq 5, 3) := by decide +kernel
theorem dMO_tryOn_75 : decode cMO_tryOn 75 = .ok (.iconst 0, 1) := by decide +kernel
theorem dMO_tryOn_76 : decode cMO_tryOn 76 = .ok (.ireturn, 1) := by decide +kernel
theorem dMO_tryOn_77 : decode cMO_tryOn 77 = .ok (.iinc 3 1, 3) := by decide +kernel
theorem dMO_tryOn_80 : decode cMO_tryOn 80 = .ok (.goto (-57), 3) := by decide +kernel
theorem dMO_tryOn_83 : decode cMO_tryOn 83 = .ok (.iconst 1, 1) := by decide +kernel
theorem dMO_tryOn_84 : decode cMO_tryOn 84 = .ok (.ireturn, 1) := by decide +kernel
theorem dMO_choose_0 : decode cMO_choose 0 = .ok (.aload_n 0, 1) := by decide +kernel
theorem dMO_choose_1 : decode cMO_choose 1 = .ok (.iconst 0, 1) := by decide +kernel
theorem dMO_choose_2 : decode cMO_choose 2 = .ok (.putfield 68, 3) := by decide +kernel
theorem dMO_choose_5 : decode cMO_choose 5 = .ok (.aload_n 0, 1) := by decide +kernel
theorem dMO_choose_6 : decode cMO_choose 6 = .ok (.iload_n 1, 1) := by decide +kernel
theorem dMO_choose_7 : decode cMO_choose 7 = .ok (.invokevirtual 118, 3) := by decide +kernel
theorem dMO_choose_10 : decode cMO_choose 10 = .ok (.ifCond .ne 5, 3) := by decide +kernel
theorem dMO_choose_13 : decode cMO_choose 13 = .ok (.iconst (-1), 1) := by decide +kernel
theorem dMO_choose_14 : decode cMO_choose 14 = .ok (.ireturn, 1) := by decide +kernel
theorem dMO_choose_15 : decode cMO_choose 15 = .ok (.aload_n 0, 1) := by decide +kernel
theorem dMO_choose_16 : decode cMO_choose 16 = .ok (.iconst 0, 1) := by decide +kernel
theorem dMO_choose_17 : decode cMO_choose 17 = .ok (.putfield 124, 3) := by decide +kernel
theorem dMO_choose_20 : decode cMO_choose 20 = .ok (.aload_n 0, 1) := by decide +kernel
theorem dMO_choose_21 : decode cMO_choose 21 = .ok (.invokevirtual 121, 3) := by decide +kernel
theorem dMO_choose_24 : decode cMO_choose 24 = .ok (.iconst 0, 1) := by decide +kernel
theorem dMO_choose_25 : decode cMO_choose 25 = .ok (.istore_n 2, 1) := by decide +kernel
theorem dMO_choose_26 : decode cMO_choose 26 = .ok (.iload_n 2, 1) := by decide +kernel
theorem dMO_choose_27 : decode cMO_choose 27 = .ok (.aload_n 0, 1) := by decide +kernel
theorem dMO_choose_28 : decode cMO_choose 28 = .ok (.getfield 72, 3) := by decide +kernel
theorem dMO_choose_31 : decode cMO_choose 31 = .ok (.if_icmp .ge 20, 3) := by decide +kernel
theorem dMO_choose_34 : decode cMO_choose 34 = .ok (.aload_n 0, 1) := by decide +kernel
theorem dMO_choose_35 : decode cMO_choose 35 = .ok (.iload_n 2, 1) := by decide +kernel
theorem dMO_choose_36 : decode cMO_choose 36 = .ok (.iload_n 1, 1) := by decide +kernel
theorem dMO_choose_37 : decode cMO_choose 37 = .ok (.invokevirtual 138, 3) := by decide +kernel
theorem dMO_choose_40 : decode cMO_choose 40 = .ok (.ifCond .eq 5, 3) := by decide +kernel
theorem dMO_choose_43 : decode cMO_choose 43 = .ok (.iload_n 2, 1) := by decide +kernel
theorem dMO_choose_44 : decode cMO_choose 44 = .ok (.ireturn, 1) := by decide +kernel
theorem dMO_choose_45 : decode cMO_choose 45 = .ok (.iinc 2 1, 3) := by decide +kernel
theorem dMO_choose_48 : decode cMO_choose 48 = .ok (.goto (-22), 3) := by decide +kernel
theorem dMO_choose_51 : decode cMO_choose 51 = .ok (.iconst 0, 1) := by decide +kernel
theorem dMO_choose_52 : decode cMO_choose 52 = .ok (.istore_n 2, 1) := by decide +kernel
theorem dMO_choose_53 : decode cMO_choose 53 = .ok (.iload_n 2, 1) := by decide +kernel
theorem dMO_choose_54 : decode cMO_choose 54 = .ok (.bipush 8, 2) := by decide +kernel
theorem dMO_choose_56 : decode cMO_choose 56 = .ok (.if_icmp .ge 16, 3) := by decide +kernel
theorem dMO_choose_59 : decode cMO_choose 59 = .ok (.aload_n 0, 1) := by decide +kernel
theorem dMO_choose_60 : decode cMO_choose 60 = .ok (.getfield 43, 3) := by decide +kernel
theorem dMO_choose_63 : decode cMO_choose 63 = .ok (.iload_n 2, 1) := by decide +kernel
theorem dMO_choose_64 : decode cMO_choose 64 = .ok (.iconst (-1), 1) := by decide +kernel
theorem dMO_choose_65 : decode cMO_choose 65 = .ok (.iastore, 1) := by decide +kernel
theorem dMO_choose_66 : decode cMO_choose 66 = .ok (.iinc 2 1, 3) := by decide +kernel
theorem dMO_choose_69 : decode cMO_choose 69 = .ok (.goto (-16), 3) := by decide +kernel
theorem dMO_choose_72 : decode cMO_choose 72 = .ok (.iconst (-1), 1) := by decide +kernel
theorem dMO_choose_73 : decode cMO_choose 73 = .ok (.ireturn, 1) := by decide +kernel
theorem dMO_chosen_0 : decode cMO_chosen 0 = .ok (.aload_n 0, 1) := by decide +kernel
theorem dMO_chosen_1 : decode cMO_chosen 1 = .ok (.iconst 0, 1) := by decide +kernel
theorem dMO_chosen_2 : decode cMO_chosen 2 = .ok (.putfield 68, 3) := by decide +kernel
theorem dMO_chosen_5 : decode cMO_chosen 5 = .ok (.iload_n 1, 1) := by decide +kernel
theorem dMO_chosen_6 : decode cMO_chosen 6 = .ok (.invokestatic 78, 3) := by decide +kernel
theorem dMO_chosen_9 : decode cMO_chosen 9 = .ok (.ifCond .eq 12, 3) := by decide +kernel
theorem dMO_chosen_12 : decode cMO_chosen 12 = .ok (.aload_n 0, 1) := by decide +kernel
theorem dMO_chosen_13 : decode cMO_chosen 13 = .ok (.getfield 43, 3) := by decide +kernel
theorem dMO_chosen_16 : decode cMO_chosen 16 = .ok (.iload_n 1, 1) := by decide +kernel
theorem dMO_chosen_17 : decode cMO_chosen 17 = .ok (.iaload, 1) := by decide +kernel
theorem dMO_chosen_18 : decode cMO_chosen 18 = .ok (.goto 4, 3) := by decide +kernel
theorem dMO_chosen_21 : decode cMO_chosen 21 = .ok (.iconst (-1), 1) := by decide +kernel
theorem dMO_chosen_22 : decode cMO_chosen 22 = .ok (.ireturn, 1) := by decide +kernel
theorem dMO_rows_0 : decode cMO_rows 0 = .ok (.aload_n 0, 1) := by decide +kernel
theorem dMO_rows_1 : decode cMO_rows 1 = .ok (.iconst 0, 1) := by decide +kernel
theorem dMO_rows_2 : decode cMO_rows 2 = .ok (.putfield 68, 3) := by decide +kernel
theorem dMO_rows_5 : decode cMO_rows 5 = .ok (.aload_n 0, 1) := by decide +kernel
theorem dMO_rows_6 : decode cMO_rows 6 = .ok (.getfield 124, 3) := by decide +kernel
theorem dMO_rows_9 : decode cMO_rows 9 = .ok (.ireturn, 1) := by decide +kernel
theorem dMO_row_0 : decode cMO_row 0 = .ok (.aload_n 0, 1) := by decide +kernel
theorem dMO_row_1 : decode cMO_row 1 = .ok (.iconst 0, 1) := by decide +kernel
theorem dMO_row_2 : decode cMO_row 2 = .ok (.putfield 68, 3) := by decide +kernel
theorem dMO_row_5 : decode cMO_row 5 = .ok (.iload_n 1, 1) := by decide +kernel
theorem dMO_row_6 : decode cMO_row 6 = .ok (.ifCond .lt 11, 3) := by decide +kernel
theorem dMO_row_9 : decode cMO_row 9 = .ok (.iload_n 1, 1) := by decide +kernel
theorem dMO_row_10 : decode cMO_row 10 = .ok (.aload_n 0, 1) := by decide +kernel
theorem dMO_row_11 : decode cMO_row 11 = .ok (.getfield 124, 3) := by decide +kernel
theorem dMO_row_14 : decode cMO_row 14 = .ok (.if_icmp .lt 5, 3) := by decide +kernel
theorem dMO_row_17 : decode cMO_row 17 = .ok (.iconst (-1), 1) := by decide +kernel
theorem dMO_row_18 : decode cMO_row 18 = .ok (.ireturn, 1) := by decide +kernel
theorem dMO_row_19 : decode cMO_row 19 = .ok (.iload_n 2, 1) := by decide +kernel
theorem dMO_row_20 : decode cMO_row 20 = .ok (.ifCond .ne 12, 3) := by decide +kernel
theorem dMO_row_23 : decode cMO_row 23 = .ok (.aload_n 0, 1) := by decide +kernel
theorem dMO_row_24 : decode cMO_row 24 = .ok (.getfield 56, 3) := by decide +kernel
theorem dMO_row_27 : decode cMO_row 27 = .ok (.iload_n 1, 1) := by decide +kernel
theorem dMO_row_28 : decode cMO_row 28 = .ok (.iaload, 1) := by decide +kernel
theorem dMO_row_29 : decode cMO_row 29 = .ok (.goto 46, 3) := by decide +kernel
theorem dMO_row_32 : decode cMO_row 32 = .ok (.iload_n 2, 1) := by decide +kernel
theorem dMO_row_33 : decode cMO_row 33 = .ok (.iconst 1, 1) := by decide +kernel
theorem dMO_row_34 : decode cMO_row 34 = .ok (.if_icmp .ne 12, 3) := by decide +kernel
theorem dMO_row_37 : decode cMO_row 37 = .ok (.aload_n 0, 1) := by decide +kernel
theorem dMO_row_38 : decode cMO_row 38 = .ok (.getfield 59, 3) := by decide +kernel
theorem dMO_row_41 : decode cMO_row 41 = .ok (.iload_n 1, 1) := by decide +kernel
theorem dMO_row_42 : decode cMO_row 42 = .ok (.iaload, 1) := by decide +kernel
theorem dMO_row_43 : decode cMO_row 43 = .ok (.goto 32, 3) := by decide +kernel
theorem dMO_row_46 : decode cMO_row 46 = .ok (.iload_n 2, 1) := by decide +kernel
theorem dMO_row_47 : decode cMO_row 47 = .ok (.iconst 2, 1) := by decide +kernel
theorem dMO_row_48 : decode cMO_row 48 = .ok (.if_icmp .ne 12, 3) := by decide +kernel
theorem dMO_row_51 : decode cMO_row 51 = .ok (.aload_n 0, 1) := by decide +kernel
theorem dMO_row_52 : decode cMO_row 52 = .ok (.getfield 62, 3) := by decide +kernel
theorem dMO_row_55 : decode cMO_row 55 = .ok (.iload_n 1, 1) := by decide +kernel
theorem dMO_row_56 : decode cMO_row 56 = .ok (.iaload, 1) := by decide +kernel
theorem dMO_row_57 : decode cMO_row 57 = .ok (.goto 18, 3) := by decide +kernel
theorem dMO_row_60 : decode cMO_row 60 = .ok (.iload_n 2, 1) := by decide +kernel
theorem dMO_row_61 : decode cMO_row 61 = .ok (.iconst 3, 1) := by decide +kernel
theorem dMO_row_62 : decode cMO_row 62 = .ok (.if_icmp .ne 12, 3) := by decide +kernel
theorem dMO_row_65 : decode cMO_row 65 = .ok (.aload_n 0, 1) := by decide +kernel
theorem dMO_row_66 : decode cMO_row 66 = .ok (.getfield 65, 3) := by decide +kernel
theorem dMO_row_69 : decode cMO_row 69 = .ok (.iload_n 1, 1) := by decide +kernel
theorem dMO_row_70 : decode cMO_row 70 = .ok (.iaload, 1) := by decide +kernel
theorem dMO_row_71 : decode cMO_row 71 = .ok (.goto 4, 3) := by decide +kernel
theorem dMO_row_74 : decode cMO_row 74 = .ok (.iconst (-1), 1) := by decide +kernel
theorem dMO_row_75 : decode cMO_row 75 = .ok (.ireturn, 1) := by decide +kernel
theorem dMO_leads_0 : decode cMO_leads 0 = .ok (.iload_n 1, 1) := by decide +kernel
theorem dMO_leads_1 : decode cMO_leads 1 = .ok (.bipush 6, 2) := by decide +kernel
theorem dMO_leads_3 : decode cMO_leads 3 = .ok (.idiv, 1) := by decide +kernel
theorem dMO_leads_4 : decode cMO_leads 4 = .ok (.istore_n 3, 1) := by decide +kernel
theorem dMO_leads_5 : decode cMO_leads 5 = .ok (.iload_n 2, 1) := by decide +kernel
theorem dMO_leads_6 : decode cMO_leads 6 = .ok (.bipush 6, 2) := by decide +kernel
theorem dMO_leads_8 : decode cMO_leads 8 = .ok (.idiv, 1) := by decide +kernel
theorem dMO_leads_9 : decode cMO_leads 9 = .ok (.istore 4, 2) := by decide +kernel
theorem dMO_leads_11 : decode cMO_leads 11 = .ok (.aload_n 0, 1) := by decide +kernel
theorem dMO_leads_12 : decode cMO_leads 12 = .ok (.iload_n 3, 1) := by decide +kernel
theorem dMO_leads_13 : decode cMO_leads 13 = .ok (.iload_n 1, 1) := by decide +kernel
theorem dMO_leads_14 : decode cMO_leads 14 = .ok (.bipush 6, 2) := by decide +kernel
theorem dMO_leads_16 : decode cMO_leads 16 = .ok (.irem, 1) := by decide +kernel
theorem dMO_leads_17 : decode cMO_leads 17 = .ok (.invokevirtual 112, 3) := by decide +kernel
theorem dMO_leads_20 : decode cMO_leads 20 = .ok (.ifCond .eq 48, 3) := by decide +kernel
theorem dMO_leads_23 : decode cMO_leads 23 = .ok (.aload_n 0, 1) := by decide +kernel
theorem dMO_leads_24 : decode cMO_leads 24 = .ok (.iload 4, 2) := by decide +kernel
theorem dMO_leads_26 : decode cMO_leads 26 = .ok (.iload_n 2, 1) := by decide +kernel
theorem dMO_leads_27 : decode cMO_leads 27 = .ok (.bipush 6, 2) := by decide +kernel
theorem dMO_leads_29 : decode cMO_leads 29 = .ok (.irem, 1) := by decide +kernel
theorem dMO_leads_30 : decode cMO_leads 30 = .ok (.invokevirtual 112, 3) := by decide +kernel
theorem dMO_leads_33 : decode cMO_leads 33 = .ok (.ifCond .eq 35, 3) := by decide +kernel
theorem dMO_leads_36 : decode cMO_leads 36 = .ok (.aload_n 0, 1) := by decide +kernel
theorem dMO_leads_37 : decode cMO_leads 37 = .ok (.iload_n 3, 1) := by decide +kernel
theorem dMO_leads_38 : decode cMO_leads 38 = .ok (.aload_n 0, 1) := by decide +kernel
theorem dMO_leads_39 : decode cMO_leads 39 = .ok (.getfield 13, 3) := by decide +kernel
theorem dMO_leads_42 : decode cMO_leads 42 = .ok (.iload 4, 2) := by decide +kernel
theorem dMO_leads_44 : decode cMO_leads 44 = .ok (.iaload, 1) := by decide +kernel
theorem dMO_leads_45 : decode cMO_leads 45 = .ok (.invokevirtual 88, 3) := by decide +kernel
theorem dMO_leads_48 : decode cMO_leads 48 = .ok (.ifCond .eq 20, 3) := by decide +kernel
theorem dMO_leads_51 : decode cMO_leads 51 = .ok (.aload_n 0, 1) := by decide +kernel
theorem dMO_leads_52 : decode cMO_leads 52 = .ok (.iload 4, 2) := by decide +kernel
theorem dMO_leads_54 : decode cMO_leads 54 = .ok (.iload_n 1, 1) := by decide +kernel
theorem dMO_leads_55 : decode cMO_leads 55 = .ok (.bipush 6, 2) := by decide +kernel
theorem dMO_leads_57 : decode cMO_leads 57 = .ok (.irem, 1) := by decide +kernel
theorem dMO_leads_58 : decode cMO_leads 58 = .ok (.invokevirtual 103, 3) := by decide +kernel
theorem dMO_leads_61 : decode cMO_leads 61 = .ok (.ifCond .eq 7, 3) := by decide +kernel
theorem dMO_leads_64 : decode cMO_leads 64 = .ok (.iconst 1, 1) := by decide +kernel
theorem dMO_leads_65 : decode cMO_leads 65 = .ok (.goto 4, 3) := by decide +kernel
theorem dMO_leads_68 : decode cMO_leads 68 = .ok (.iconst 0, 1) := by decide +kernel
theorem dMO_leads_69 : decode cMO_leads 69 = .ok (.ireturn, 1) := by decide +kernel
theorem dMO_isPlace_0 : decode cMO_isPlace 0 = .ok (.iload_n 1, 1) := by decide +kernel
theorem dMO_isPlace_1 : decode cMO_isPlace 1 = .ok (.bipush 6, 2) := by decide +kernel
theorem dMO_isPlace_3 : decode cMO_isPlace 3 = .ok (.idiv, 1) := by decide +kernel
theorem dMO_isPlace_4 : decode cMO_isPlace 4 = .ok (.aload_n 0, 1) := by decide +kernel
theorem dMO_isPlace_5 : decode cMO_isPlace 5 = .ok (.getfield 75, 3) := by decide +kernel
theorem dMO_isPlace_8 : decode cMO_isPlace 8 = .ok (.if_icmp .ge 18, 3) := by decide +kernel
theorem dMO_isPlace_11 : decode cMO_isPlace 11 = .ok (.iload_n 1, 1) := by decide +kernel
theorem dMO_isPlace_12 : decode cMO_isPlace 12 = .ok (.bipush 6, 2) := by decide +kernel
theorem dMO_isPlace_14 : decode cMO_isPlace 14 = .ok (.irem, 1) := by decide +kernel
theorem dMO_isPlace_15 : decode cMO_isPlace 15 = .ok (.aload_n 0, 1) := by decide +kernel
theorem dMO_isPlace_16 : decode cMO_isPlace 16 = .ok (.getfield 72, 3) := by decide +kernel
theorem dMO_isPlace_19 : decode cMO_isPlace 19 = .ok (.if_icmp .ge 7, 3) := by decide +kernel
theorem dMO_isPlace_22 : decode cMO_isPlace 22 = .ok (.iconst 1, 1) := by decide +kernel
theorem dMO_isPlace_23 : decode cMO_isPlace 23 = .ok (.goto 4, 3) := by decide +kernel
theorem dMO_isPlace_26 : decode cMO_isPlace 26 = .ok (.iconst 0, 1) := by decide +kernel
theorem dMO_isPlace_27 : decode cMO_isPlace 27 = .ok (.ireturn, 1) := by decide +kernel
theorem dMO_comesBack_0 : decode cMO_comesBack 0 = .ok (.iconst 0, 1) := by decide +kernel
theorem dMO_comesBack_1 : decode cMO_comesBack 1 = .ok (.istore_n 2, 1) := by decide +kernel
theorem dMO_comesBack_2 : decode cMO_comesBack 2 = .ok (.iload_n 2, 1) := by decide +kernel
theorem dMO_comesBack_3 : decode cMO_comesBack 3 = .ok (.aload_n 0, 1) := by decide +kernel
theorem dMO_comesBack_4 : decode cMO_comesBack 4 = .ok (.getfield 53, 3) := by decide +kernel
theorem dMO_comesBack_7 : decode cMO_comesBack 7 = .ok (.arraylength, 1) := by decide +kernel
theorem dMO_comesBack_8 : decode cMO_comesBack 8 = .ok (.if_icmp .ge 16, 3) := by decide +kernel
theorem dMO_comesBack_11 : decode cMO_comesBack 11 = .ok (.aload_n 0, 1) := by decide +kernel
theorem dMO_comesBack_12 : decode cMO_comesBack 12 = .ok (.getfield 53, 3) := by decide +kernel
theorem dMO_comesBack_15 : decode cMO_comesBack 15 = .ok (.iload_n 2, 1) := by decide +kernel
theorem dMO_comesBack_16 : decode cMO_comesBack 16 = .ok (.iconst 0, 1) := by decide +kernel
theorem dMO_comesBack_17 : decode cMO_comesBack 17 = .ok (.bastore, 1) := by decide +kernel
theorem dMO_comesBack_18 : decode cMO_comesBack 18 = .ok (.iinc 2 1, 3) := by decide +kernel
theorem dMO_comesBack_21 : decode cMO_comesBack 21 = .ok (.goto (-19), 3) := by decide +kernel
theorem dMO_comesBack_24 : decode cMO_comesBack 24 = .ok (.iconst 1, 1) := by decide +kernel
theorem dMO_comesBack_25 : decode cMO_comesBack 25 = .ok (.istore_n 2, 1) := by decide +kernel
theorem dMO_comesBack_26 : decode cMO_comesBack 26 = .ok (.iload_n 2, 1) := by decide +kernel
theorem dMO_comesBack_27 : decode cMO_comesBack 27 = .ok (.ifCond .eq 130, 3) := by decide +kernel
theorem dMO_comesBack_30 : decode cMO_comesBack 30 = .ok (.aload_n 0, 1) := by decide +kernel
theorem dMO_comesBack_31 : decode cMO_comesBack 31 = .ok (.getfield 53, 3) := by decide +kernel
theorem dMO_comesBack_34 : decode cMO_comesBack 34 = .ok (.iload_n 1, 1) := by decide +kernel
theorem dMO_comesBack_35 : decode cMO_comesBack 35 = .ok (.baload, 1) := by decide +kernel
theorem dMO_comesBack_36 : decode cMO_comesBack 36 = .ok (.ifCond .ne 121, 3) := by decide +kernel
theorem dMO_comesBack_39 : decode cMO_comesBack 39 = .ok (.iconst 0, 1) := by decide +kernel
theorem dMO_comesBack_40 : decode cMO_comesBack 40 = .ok (.istore_n 2, 1) := by decide +kernel
theorem dMO_comesBack_41 : decode cMO_comesBack 41 = .ok (.iconst 0, 1) := by decide +kernel
theorem dMO_comesBack_42 : decode cMO_comesBack 42 = .ok (.istore_n 3, 1) := by decide +kernel
theorem dMO_comesBack_43 : decode cMO_comesBack 43 = .ok (.iload_n 3, 1) := by decide +kernel
theorem dMO_comesBack_44 : decode cMO_comesBack 44 = .ok (.aload_n 0, 1) := by decide +kernel
theorem dMO_comesBack_45 : decode cMO_comesBack 45 = .ok (.getfield 53, 3) := by decide +kernel
theorem dMO_comesBack_48 : decode cMO_comesBack 48 = .ok (.arraylength, 1) := by decide +kernel
theorem dMO_comesBack_49 : decode cMO_comesBack 49 = .ok (.if_icmp .ge 105, 3) := by decide +kernel
theorem dMO_comesBack_52 : decode cMO_comesBack 52 = .ok (.iload_n 3, 1) := by decide +kernel
theorem dMO_comesBack_53 : decode cMO_comesBack 53 = .ok (.iload_n 1, 1) := by decide +kernel
theorem dMO_comesBack_54 : decode cMO_comesBack 54 = .ok (.if_icmp .eq 12, 3) := by decide +kernel
theorem dMO_comesBack_57 : decode cMO_comesBack 57 = .ok (.aload_n 0, 1) := by decide +kernel
theorem dMO_comesBack_58 : decode cMO_comesBack 58 = .ok (.getfield 53, 3) := by decide +kernel
theorem dMO_comesBack_61 : decode cMO_comesBack 61 = .ok (.iload_n 3, 1) := by decide +kernel
theorem dMO_comesBack_62 : decode cMO_comesBack 62 = .ok (.baload, 1) := by decide +kernel
theorem dMO_comesBack_63 : decode cMO_comesBack 63 = .ok (.ifCond .eq 85, 3) := by decide +kernel
theorem dMO_comesBack_66 : decode cMO_comesBack 66 = .ok (.aload_n 0, 1) := by decide +kernel
theorem dMO_comesBack_67 : decode cMO_comesBack 67 = .ok (.iload_n 3, 1) := by decide +kernel
theorem dMO_comesBack_68 : decode cMO_comesBack 68 = .ok (.invokevirtual 141, 3) := by decide +kernel
theorem dMO_comesBack_71 : decode cMO_comesBack 71 = .ok (.ifCond .ne 6, 3) := by decide +kernel
theorem dMO_comesBack_74 : decode cMO_comesBack 74 = .ok (.goto 74, 3) := by decide +kernel
theorem dMO_comesBack_77 : decode cMO_comesBack 77 = .ok (.iconst 0, 1) := by decide +kernel
theorem dMO_comesBack_78 : decode cMO_comesBack 78 = .ok (.istore 4, 2) := by decide +kernel
theorem dMO_comesBack_80 : decode cMO_comesBack 80 = .ok (.iload 4, 2) := by decide +kernel
theorem dMO_comesBack_82 : decode cMO_comesBack 82 = .ok (.aload_n 0, 1) := by decide +kernel
theorem dMO_comesBack_83 : decode cMO_comesBack 83 = .ok (.getfield 53, 3) := by decide +kernel
theorem dMO_comesBack_86 : decode cMO_comesBack 86 = .ok (.arraylength, 1) := by decide +kernel
theorem dMO_comesBack_87 : decode cMO_comesBack 87 = .ok (.if_icmp .ge 61, 3) := by decide +kernel
theorem dMO_comesBack_90 : decode cMO_comesBack 90 = .ok (.aload_n 0, 1) := by decide +kernel
theorem dMO_comesBack_91 : decode cMO_comesBack 91 = .ok (.getfield 53, 3) := by decide +kernel
theorem dMO_comesBack_94 : decode cMO_comesBack 94 = .ok (.iload 4, 2) := by decide +kernel
theorem dMO_comesBack_96 : decode cMO_comesBack 96 = .ok (.baload, 1) := by decide +kernel
theorem dMO_comesBack_97 : decode cMO_comesBack 97 = .ok (.ifCond .ne 45, 3) := by decide +kernel
theorem dMO_comesBack_100 : decode cMO_comesBack 100 = .ok (.aload_n 0, 1) := by decide +kernel
theorem dMO_comesBack_101 : decode cMO_comesBack 101 = .ok (.iload 4, 2) := by decide +kernel
theorem dMO_comesBack_103 : decode cMO_comesBack 103 = .ok (.invokevirtual 141, 3) := by decide +kernel
theorem dMO_comesBack_106 : decode cMO_comesBack 106 = .ok (.ifCond .eq 36, 3) := by decide +kernel
theorem dMO_comesBack_109 : decode cMO_comesBack 109 = .ok (.aload_n 0, 1) := by decide +kernel
theorem dMO_comesBack_110 : decode cMO_comesBack 110 = .ok (.getfield 50, 3) := by decide +kernel
theorem dMO_comesBack_113 : decode cMO_comesBack 113 = .ok (.iload 4, 2) := by decide +kernel
theorem dMO_comesBack_115 : decode cMO_comesBack 115 = .ok (.baload, 1) := by decide +kernel
theorem dMO_comesBack_116 : decode cMO_comesBack 116 = .ok (.ifCond .ne 26, 3) := by decide +kernel
theorem dMO_comesBack_119 : decode cMO_comesBack 119 = .ok (.aload_n 0, 1) := by decide +kernel
theorem dMO_comesBack_120 : decode cMO_comesBack 120 = .ok (.iload_n 3, 1) := by decide +kernel
theorem dMO_comesBack_121 : decode cMO_comesBack 121 = .ok (.iload 4, 2) := by decide +kernel
theorem dMO_comesBack_123 : decode cMO_comesBack 123 = .ok (.invokevirtual 144, 3) := by decide +kernel
theorem dMO_comesBack_126 : decode cMO_comesBack 126 = .ok (.ifCond .ne 6, 3) := by decide +kernel
theorem dMO_comesBack_129 : decode cMO_comesBack 129 = .ok (.goto 13, 3) := by decide +kernel
theorem dMO_comesBack_132 : decode cMO_comesBack 132 = .ok (.aload_n 0, 1) := by decide +kernel
theorem dMO_comesBack_133 : decode cMO_comesBack 133 = .ok (.getfield 53, 3) := by decide +kernel
theorem dMO_comesBack_136 : decode cMO_comesBack 136 = .ok (.iload 4, 2) := by decide +kernel
theorem dMO_comesBack_138 : decode cMO_comesBack 138 = .ok (.iconst 1, 1) := by decide +kernel
theorem dMO_comesBack_139 : decode cMO_comesBack 139 = .ok (.bastore, 1) := by decide +kernel
theorem dMO_comesBack_140 : decode cMO_comesBack 140 = .ok (.iconst 1, 1) := by decide +kernel
theorem dMO_comesBack_141 : decode cMO_comesBack 141 = .ok (.istore_n 2, 1) := by decide +kernel
theorem dMO_comesBack_142 : decode cMO_comesBack 142 = .ok (.iinc 4 1, 3) := by decide +kernel
theorem dMO_comesBack_145 : decode cMO_comesBack 145 = .ok (.goto (-65), 3) := by decide +kernel
theorem dMO_comesBack_148 : decode cMO_comesBack 148 = .ok (.iinc 3 1, 3) := by decide +kernel
theorem dMO_comesBack_151 : decode cMO_comesBack 151 = .ok (.goto (-108), 3) := by decide +kernel
theorem dMO_comesBack_154 : decode cMO_comesBack 154 = .ok (.goto (-128), 3) := by decide +kernel
theorem dMO_comesBack_157 : decode cMO_comesBack 157 = .ok (.aload_n 0, 1) := by decide +kernel
theorem dMO_comesBack_158 : decode cMO_comesBack 158 = .ok (.getfield 53, 3) := by decide +kernel
theorem dMO_comesBack_161 : decode cMO_comesBack 161 = .ok (.iload_n 1, 1) := by decide +kernel
theorem dMO_comesBack_162 : decode cMO_comesBack 162 = .ok (.baload, 1) := by decide +kernel
theorem dMO_comesBack_163 : decode cMO_comesBack 163 = .ok (.ireturn, 1) := by decide +kernel
theorem dMO_isRing_0 : decode cMO_isRing 0 = .ok (.iconst 0, 1) := by decide +kernel
theorem dMO_isRing_1 : decode cMO_isRing 1 = .ok (.istore_n 2, 1) := by decide +kernel
theorem dMO_isRing_2 : decode cMO_isRing 2 = .ok (.iconst 0, 1) := by decide +kernel
theorem dMO_isRing_3 : decode cMO_isRing 3 = .ok (.istore_n 3, 1) := by decide +kernel
theorem dMO_isRing_4 : decode cMO_isRing 4 = .ok (.iload_n 3, 1) := by decide +kernel
theorem dMO_isRing_5 : decode cMO_isRing 5 = .ok (.aload_n 0, 1) := by decide +kernel
theorem dMO_isRing_6 : decode cMO_isRing 6 = .ok (.getfield 72, 3) := by decide +kernel
theorem dMO_isRing_9 : decode cMO_isRing 9 = .ok (.if_icmp .ge 44, 3) := by decide +kernel
theorem dMO_isRing_12 : decode cMO_isRing 12 = .ok (.iload_n 2, 1) := by decide +kernel
theorem dMO_isRing_13 : decode cMO_isRing 13 = .ok (.ifCond .ne 40, 3) := by decide +kernel
theorem dMO_isRing_16 : decode cMO_isRing 16 = .ok (.aload_n 0, 1) := by decide +kernel
theorem dMO_isRing_17 : decode cMO_isRing 17 = .ok (.getfield 50, 3) := by decide +kernel
theorem dMO_isRing_20 : decode cMO_isRing 20 = .ok (.iload_n 1, 1) := by decide +kernel
theorem dMO_isRing_21 : decode cMO_isRing 21 = .ok (.iload_n 3, 1) := by decide +kernel
theorem dMO_isRing_22 : decode cMO_isRing 22 = .ok (.invokestatic 106, 3) := by decide +kernel
theorem dMO_isRing_25 : decode cMO_isRing 25 = .ok (.baload, 1) := by decide +kernel
theorem dMO_isRing_26 : decode cMO_isRing 26 = .ok (.ifCond .ne 19, 3) := by decide +kernel
theorem dMO_isRing_29 : decode cMO_isRing 29 = .ok (.aload_n 0, 1) := by decide +kernel
theorem dMO_isRing_30 : decode cMO_isRing 30 = .ok (.iload_n 1, 1) := by decide +kernel
theorem dMO_isRing_31 : decode cMO_isRing 31 = .ok (.iload_n 3, 1) := by decide +kernel
theorem dMO_isRing_32 : decode cMO_isRing 32 = .ok (.invokestatic 106, 3) := by decide +kernel
theorem dMO_isRing_35 : decode cMO_isRing 35 = .ok (.invokevirtual 147, 3) := by decide +kernel
theorem dMO_isRing_38 : decode cMO_isRing 38 = .ok (.ifCond .eq 7, 3) := by decide +kernel
theorem dMO_isRing_41 : decode cMO_isRing 41 = .ok (.iconst 1, 1) := by decide +kernel
theorem dMO_isRing_42 : decode cMO_isRing 42 = .ok (.goto 4, 3) := by decide +kernel
theorem dMO_isRing_45 : decode cMO_isRing 45 = .ok (.iconst 0, 1) := by decide +kernel
theorem dMO_isRing_46 : decode cMO_isRing 46 = .ok (.istore_n 2, 1) := by decide +kernel
theorem dMO_isRing_47 : decode cMO_isRing 47 = .ok (.iinc 3 1, 3) := by decide +kernel
theorem dMO_isRing_50 : decode cMO_isRing 50 = .ok (.goto (-46), 3) := by decide +kernel
theorem dMO_isRing_53 : decode cMO_isRing 53 = .ok (.iload_n 2, 1) := by decide +kernel
theorem dMO_isRing_54 : decode cMO_isRing 54 = .ok (.ireturn, 1) := by decide +kernel
theorem dMO_ring_0 : decode cMO_ring 0 = .ok (.aload_n 0, 1) := by decide +kernel
theorem dMO_ring_1 : decode cMO_ring 1 = .ok (.iconst 0, 1) := by decide +kernel
theorem dMO_ring_2 : decode cMO_ring 2 = .ok (.putfield 68, 3) := by decide +kernel
theorem dMO_ring_5 : decode cMO_ring 5 = .ok (.aload_n 0, 1) := by decide +kernel
theorem dMO_ring_6 : decode cMO_ring 6 = .ok (.invokevirtual 121, 3) := by decide +kernel
theorem dMO_ring_9 : decode cMO_ring 9 = .ok (.iload_n 1, 1) := by decide +kernel
theorem dMO_ring_10 : decode cMO_ring 10 = .ok (.istore_n 2, 1) := by decide +kernel
theorem dMO_ring_11 : decode cMO_ring 11 = .ok (.iconst 0, 1) := by decide +kernel
theorem dMO_ring_12 : decode cMO_ring 12 = .ok (.istore_n 3, 1) := by decide +kernel
theorem dMO_ring_13 : decode cMO_ring 13 = .ok (.iload_n 3, 1) := by decide +kernel
theorem dMO_ring_14 : decode cMO_ring 14 = .ok (.aload_n 0, 1) := by decide +kernel
theorem dMO_ring_15 : decode cMO_ring 15 = .ok (.getfield 75, 3) := by decide +kernel
theorem dMO_ring_18 : decode cMO_ring 18 = .ok (.if_icmp .ge 29, 3) := by decide +kernel
theorem dMO_ring_21 : decode cMO_ring 21 = .ok (.aload_n 0, 1) := by decide +kernel
theorem dMO_ring_22 : decode cMO_ring 22 = .ok (.iload_n 3, 1) := by decide +kernel
theorem dMO_ring_23 : decode cMO_ring 23 = .ok (.invokevirtual 150, 3) := by decide +kernel
theorem dMO_ring_26 : decode cMO_ring 26 = .ok (.ifCond .ne 6, 3) := by decide +kernel
theorem dMO_ring_29 : decode cMO_ring 29 = .ok (.goto 12, 3) := by decide +kernel
theorem dMO_ring_32 : decode cMO_ring 32 = .ok (.iload_n 2, 1) := by decide +kernel
theorem dMO_ring_33 : decode cMO_ring 33 = .ok (.ifCond .ne 5, 3) := by decide +kernel
theorem dMO_ring_36 : decode cMO_ring 36 = .ok (.iload_n 3, 1) := by decide +kernel
theorem dMO_ring_37 : decode cMO_ring 37 = .ok (.ireturn, 1) := by decide +kernel
theorem dMO_ring_38 : decode cMO_ring 38 = .ok (.iinc 2 (-1), 3) := by decide +kernel
theorem dMO_ring_41 : decode cMO_ring 41 = .ok (.iinc 3 1, 3) := by decide +kernel
theorem dMO_ring_44 : decode cMO_ring 44 = .ok (.goto (-31), 3) := by decide +kernel
theorem dMO_ring_47 : decode cMO_ring 47 = .ok (.iconst (-1), 1) := by decide +kernel
theorem dMO_ring_48 : decode cMO_ring 48 = .ok (.ireturn, 1) := by decide +kernel
