theorem dMo_thrown_0 : decode cMo_thrown 0 = .ok (.aload_n 0, 1) := by decide +kernel
theorem dMo_thrown_1 : decode cMo_thrown 1 = .ok (.getfield 90, 3) := by decide +kernel
theorem dMo_thrown_4 : decode cMo_thrown 4 = .ok (.ireturn, 1) := by decide +kernel
theorem dMo_isNode_0 : decode cMo_isNode 0 = .ok (.iload_n 0, 1) := by decide +kernel
theorem dMo_isNode_1 : decode cMo_isNode 1 = .ok (.ifCond .lt 12, 3) := by decide +kernel
theorem dMo_isNode_4 : decode cMo_isNode 4 = .ok (.iload_n 0, 1) := by decide +kernel
theorem dMo_isNode_5 : decode cMo_isNode 5 = .ok (.iconst 4, 1) := by decide +kernel
theorem dMo_isNode_6 : decode cMo_isNode 6 = .ok (.if_icmp .ge 7, 3) := by decide +kernel
theorem dMo_isNode_9 : decode cMo_isNode 9 = .ok (.iconst 1, 1) := by decide +kernel
theorem dMo_isNode_10 : decode cMo_isNode 10 = .ok (.goto 4, 3) := by decide +kernel
theorem dMo_isNode_13 : decode cMo_isNode 13 = .ok (.iconst 0, 1) := by decide +kernel
theorem dMo_isNode_14 : decode cMo_isNode 14 = .ok (.ireturn, 1) := by decide +kernel
theorem dMo_isChannel_0 : decode cMo_isChannel 0 = .ok (.iload_n 0, 1) := by decide +kernel
theorem dMo_isChannel_1 : decode cMo_isChannel 1 = .ok (.invokestatic 103, 3) := by decide +kernel
theorem dMo_isChannel_4 : decode cMo_isChannel 4 = .ok (.ifCond .eq 19, 3) := by decide +kernel
theorem dMo_isChannel_7 : decode cMo_isChannel 7 = .ok (.iload_n 1, 1) := by decide +kernel
theorem dMo_isChannel_8 : decode cMo_isChannel 8 = .ok (.invokestatic 103, 3) := by decide +kernel
theorem dMo_isChannel_11 : decode cMo_isChannel 11 = .ok (.ifCond .eq 12, 3) := by decide +kernel
theorem dMo_isChannel_14 : decode cMo_isChannel 14 = .ok (.iload_n 0, 1) := by decide +kernel
theorem dMo_isChannel_15 : decode cMo_isChannel 15 = .ok (.iload_n 1, 1) := by decide +kernel
theorem dMo_isChannel_16 : decode cMo_isChannel 16 = .ok (.if_icmp .eq 7, 3) := by decide +kernel
theorem dMo_isChannel_19 : decode cMo_isChannel 19 = .ok (.iconst 1, 1) := by decide +kernel
theorem dMo_isChannel_20 : decode cMo_isChannel 20 = .ok (.goto 4, 3) := by decide +kernel
theorem dMo_isChannel_23 : decode cMo_isChannel 23 = .ok (.iconst 0, 1) := by decide +kernel
theorem dMo_isChannel_24 : decode cMo_isChannel 24 = .ok (.ireturn, 1) := by decide +kernel
theorem dMo_send_0 : decode cMo_send 0 = .ok (.aload_n 0, 1) := by decide +kernel
theorem dMo_send_1 : decode cMo_send 1 = .ok (.getfield 28, 3) := by decide +kernel
theorem dMo_send_4 : decode cMo_send 4 = .ok (.istore 6, 2) := by decide +kernel
theorem dMo_send_6 : decode cMo_send 6 = .ok (.iload 6, 2) := by decide +kernel
theorem dMo_send_8 : decode cMo_send 8 = .ok (.ifCond .lt 17, 3) := by decide +kernel
theorem dMo_send_11 : decode cMo_send 11 = .ok (.aload_n 0, 1) := by decide +kernel
theorem dMo_send_12 : decode cMo_send 12 = .ok (.aload_n 0, 1) := by decide +kernel
theorem dMo_send_13 : decode cMo_send 13 = .ok (.getfield 25, 3) := by decide +kernel
theorem dMo_send_16 : decode cMo_send 16 = .ok (.iload 6, 2) := by decide +kernel
theorem dMo_send_18 : decode cMo_send 18 = .ok (.iaload, 1) := by decide +kernel
theorem dMo_send_19 : decode cMo_send 19 = .ok (.putfield 28, 3) := by decide +kernel
theorem dMo_send_22 : decode cMo_send 22 = .ok (.goto 19, 3) := by decide +kernel
theorem dMo_send_25 : decode cMo_send 25 = .ok (.aload_n 0, 1) := by decide +kernel
theorem dMo_send_26 : decode cMo_send 26 = .ok (.getfield 93, 3) := by decide +kernel
theorem dMo_send_29 : decode cMo_send 29 = .ok (.istore 6, 2) := by decide +kernel
theorem dMo_send_31 : decode cMo_send 31 = .ok (.aload_n 0, 1) := by decide +kernel
theorem dMo_send_32 : decode cMo_send 32 = .ok (.dup, 1) := by decide +kernel
theorem dMo_send_33 : decode cMo_send 33 = .ok (.getfield 93, 3) := by decide +kernel
theorem dMo_send_36 : decode cMo_send 36 = .ok (.iconst 1, 1) := by decide +kernel
theorem dMo_send_37 : decode cMo_send 37 = .ok (.iadd, 1) := by decide +kernel
theorem dMo_send_38 : decode cMo_send 38 = .ok (.putfield 93, 3) := by decide +kernel
theorem dMo_send_41 : decode cMo_send 41 = .ok (.aload_n 0, 1) := by decide +kernel
theorem dMo_send_42 : decode cMo_send 42 = .ok (.getfield 19, 3) := by decide +kernel
theorem dMo_send_45 : decode cMo_send 45 = .ok (.iload 6, 2) := by decide +kernel
theorem dMo_send_47 : decode cMo_send 47 = .ok (.bipush 10, 2) := by decide +kernel
theorem dMo_send_49 : decode cMo_send 49 = .ok (.iload_n 3, 1) := by decide +kernel
theorem dMo_send_50 : decode cMo_send 50 = .ok (.imul, 1) := by decide +kernel
theorem dMo_send_51 : decode cMo_send 51 = .ok (.iload 4, 2) := by decide +kernel
theorem dMo_send_53 : decode cMo_send 53 = .ok (.iadd, 1) := by decide +kernel
theorem dMo_send_54 : decode cMo_send 54 = .ok (.iastore, 1) := by decide +kernel
theorem dMo_send_55 : decode cMo_send 55 = .ok (.aload_n 0, 1) := by decide +kernel
theorem dMo_send_56 : decode cMo_send 56 = .ok (.getfield 22, 3) := by decide +kernel
theorem dMo_send_59 : decode cMo_send 59 = .ok (.iload 6, 2) := by decide +kernel
theorem dMo_send_61 : decode cMo_send 61 = .ok (.iload 5, 2) := by decide +kernel
theorem dMo_send_63 : decode cMo_send 63 = .ok (.iastore, 1) := by decide +kernel
theorem dMo_send_64 : decode cMo_send 64 = .ok (.aload_n 0, 1) := by decide +kernel
theorem dMo_send_65 : decode cMo_send 65 = .ok (.getfield 25, 3) := by decide +kernel
theorem dMo_send_68 : decode cMo_send 68 = .ok (.iload 6, 2) := by decide +kernel
theorem dMo_send_70 : decode cMo_send 70 = .ok (.iconst (-1), 1) := by decide +kernel
theorem dMo_send_71 : decode cMo_send 71 = .ok (.iastore, 1) := by decide +kernel
theorem dMo_send_72 : decode cMo_send 72 = .ok (.iconst 4, 1) := by decide +kernel
theorem dMo_send_73 : decode cMo_send 73 = .ok (.iload_n 1, 1) := by decide +kernel
theorem dMo_send_74 : decode cMo_send 74 = .ok (.imul, 1) := by decide +kernel
theorem dMo_send_75 : decode cMo_send 75 = .ok (.iload_n 2, 1) := by decide +kernel
theorem dMo_send_76 : decode cMo_send 76 = .ok (.iadd, 1) := by decide +kernel
theorem dMo_send_77 : decode cMo_send 77 = .ok (.istore 7, 2) := by decide +kernel
theorem dMo_send_79 : decode cMo_send 79 = .ok (.aload_n 0, 1) := by decide +kernel
theorem dMo_send_80 : decode cMo_send 80 = .ok (.getfield 7, 3) := by decide +kernel
theorem dMo_send_83 : decode cMo_send 83 = .ok (.iload 7, 2) := by decide +kernel
theorem dMo_send_85 : decode cMo_send 85 = .ok (.iaload, 1) := by decide +kernel
theorem dMo_send_86 : decode cMo_send 86 = .ok (.ifCond .ge 15, 3) := by decide +kernel
theorem dMo_send_89 : decode cMo_send 89 = .ok (.aload_n 0, 1) := by decide +kernel
theorem dMo_send_90 : decode cMo_send 90 = .ok (.getfield 7, 3) := by decide +kernel
theorem dMo_send_93 : decode cMo_send 93 = .ok (.iload 7, 2) := by decide +kernel
theorem dMo_send_95 : decode cMo_send 95 = .ok (.iload 6, 2) := by decide +kernel
theorem dMo_send_97 : decode cMo_send 97 = .ok (.iastore, 1) := by decide +kernel
theorem dMo_send_98 : decode cMo_send 98 = .ok (.goto 17, 3) := by decide +kernel
theorem dMo_send_101 : decode cMo_send 101 = .ok (.aload_n 0, 1) := by decide +kernel
theorem dMo_send_102 : decode cMo_send 102 = .ok (.getfield 25, 3) := by decide +kernel
theorem dMo_send_105 : decode cMo_send 105 = .ok (.aload_n 0, 1) := by decide +kernel
theorem dMo_send_106 : decode cMo_send 106 = .ok (.getfield 13, 3) := by decide +kernel
theorem dMo_send_109 : decode cMo_send 109 = .ok (.iload 7, 2) := by decide +kernel
theorem dMo_send_111 : decode cMo_send 111 = .ok (.iaload, 1) := by decide +kernel
theorem dMo_send_112 : decode cMo_send 112 = .ok (.iload 6, 2) := by decide +kernel
theorem dMo_send_114 : decode cMo_send 114 = .ok (.iastore, 1) := by decide +kernel
theorem dMo_send_115 : decode cMo_send 115 = .ok (.aload_n 0, 1) := by decide +kernel
theorem dMo_send_116 : decode cMo_send 116 = .ok (.getfield 13, 3) := by decide +kernel
theorem dMo_send_119 : decode cMo_send 119 = .ok (.iload 7, 2) := by decide +kernel
theorem dMo_send_121 : decode cMo_send 121 = .ok (.iload 6, 2) := by decide +kernel
theorem dMo_send_123 : decode cMo_send 123 = .ok (.iastore, 1) := by decide +kernel
theorem dMo_send_124 : decode cMo_send 124 = .ok (.aload_n 0, 1) := by decide +kernel
theorem dMo_send_125 : decode cMo_send 125 = .ok (.getfield 16, 3) := by decide +kernel
theorem dMo_send_128 : decode cMo_send 128 = .ok (.iload 7, 2) := by decide +kernel
theorem dMo_send_130 : decode cMo_send 130 = .ok (.dup2, 1) := by decide +kernel
theorem dMo_send_131 : decode cMo_send 131 = .ok (.iaload, 1) := by decide +kernel
theorem dMo_send_132 : decode cMo_send 132 = .ok (.iconst 1, 1) := by decide +kernel
theorem dMo_send_133 : decode cMo_send 133 = .ok (.iadd, 1) := by decide +kernel
theorem dMo_send_134 : decode cMo_send 134 = .ok (.iastore, 1) := by decide +kernel
theorem dMo_send_135 : decode cMo_send 135 = .ok (.aload_n 0, 1) := by decide +kernel
theorem dMo_send_136 : decode cMo_send 136 = .ok (.dup, 1) := by decide +kernel
theorem dMo_send_137 : decode cMo_send 137 = .ok (.getfield 96, 3) := by decide +kernel
theorem dMo_send_140 : decode cMo_send 140 = .ok (.iconst 1, 1) := by decide +kernel
theorem dMo_send_141 : decode cMo_send 141 = .ok (.iadd, 1) := by decide +kernel
theorem dMo_send_142 : decode cMo_send 142 = .ok (.putfield 96, 3) := by decide +kernel
theorem dMo_send_145 : decode cMo_send 145 = .ok (.return_, 1) := by decide +kernel
theorem dMo_comeIn_0 : decode cMo_comeIn 0 = .ok (.aload_n 0, 1) := by decide +kernel
theorem dMo_comeIn_1 : decode cMo_comeIn 1 = .ok (.getfield 32, 3) := by decide +kernel
theorem dMo_comeIn_4 : decode cMo_comeIn 4 = .ok (.iconst 4, 1) := by decide +kernel
theorem dMo_comeIn_5 : decode cMo_comeIn 5 = .ok (.iload_n 1, 1) := by decide +kernel
theorem dMo_comeIn_6 : decode cMo_comeIn 6 = .ok (.imul, 1) := by decide +kernel
theorem dMo_comeIn_7 : decode cMo_comeIn 7 = .ok (.iload_n 2, 1) := by decide +kernel
theorem dMo_comeIn_8 : decode cMo_comeIn 8 = .ok (.iadd, 1) := by decide +kernel
theorem dMo_comeIn_9 : decode cMo_comeIn 9 = .ok (.iconst 2, 1) := by decide +kernel
theorem dMo_comeIn_10 : decode cMo_comeIn 10 = .ok (.iastore, 1) := by decide +kernel
theorem dMo_comeIn_11 : decode cMo_comeIn 11 = .ok (.aload_n 0, 1) := by decide +kernel
theorem dMo_comeIn_12 : decode cMo_comeIn 12 = .ok (.dup, 1) := by decide +kernel
theorem dMo_comeIn_13 : decode cMo_comeIn 13 = .ok (.getfield 128, 3) := by decide +kernel
theorem dMo_comeIn_16 : decode cMo_comeIn 16 = .ok (.iconst 1, 1) := by decide +kernel
theorem dMo_comeIn_17 : decode cMo_comeIn 17 = .ok (.iadd, 1) := by decide +kernel
theorem dMo_comeIn_18 : decode cMo_comeIn 18 = .ok (.putfield 128, 3) := by decide +kernel
theorem dMo_comeIn_21 : decode cMo_comeIn 21 = .ok (.return_, 1) := by decide +kernel
