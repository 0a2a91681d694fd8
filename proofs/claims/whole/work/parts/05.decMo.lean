theorem dMo_thrown_0 : decode cMo_thrown 0 = .ok (.aload_n 0, 1) := by decide +kernel
theorem dMo_thrown_1 : decode cMo_thrown 1 = .ok (.getfield 90, 3) := by decide +kernel
theorem dMo_thrown_4 : decode cMo_thrown 4 = .ok (.ireturn, 1) := by decide +kernel
theorem dMo_isNode_0 : decode cMo_isNode 0 = .ok (.iload_n 0, 1) := by decide +kernel
theorem dMo_isNode_1 : decode cMo_isNode 1 = .ok (.ifCond .lt 12, 3) := by decide +kernel
theorem dMo_isNode_4 : decode cMo_isNode 4 = .ok (.iload_n 0, 1) := by decide +kernel
theorem dMo_isNode_5 : decode cMo_isNode 5 = .ok (.iconst 4, 1) := by decide +kernel
theorem dMo_isNode_6 : decode cMo_isNode 6 = .ok (.if_icmp .ge 7, 3) := by decide +kernel
theorem dMo_isNode_9 : decode cMo_isNode 9 = .ok (.iconst 1, 1) := by decide +kernel
theorem dMo_isNode_10 : decode cMo_isNode 10 = .ok (.goto 4, 3) := by decide +kernel
theorem dMo_isNode_13 : decode cMo_isNode 13 = .ok (.iconst 0, 1) := by decide +kernel
theorem dMo_isNode_14 : decode cMo_isNode 14 = .ok (.ireturn, 1) := by decide +kernel
theorem dMo_isChannel_0 : decode cMo_isChannel 0 = .ok (.iload_n 0, 1) := by decide +kernel
theorem dMo_isChannel_1 : decode cMo_isChannel 1 = .ok (.invokestatic 103, 3) := by decide +kernel
theorem dMo_isChannel_4 : decode cMo_isChannel 4 = .ok (.ifCond .eq 19, 3) := by decide +kernel
theorem dMo_isChannel_7 : decode cMo_isChannel 7 = .ok (.iload_n 1, 1) := by decide +kernel
theorem dMo_isChannel_8 : decode cMo_isChannel 8 = .ok (.invokestatic 103, 3) := by decide +kernel
theorem dMo_isChannel_11 : decode cMo_isChannel 11 = .ok (.ifCond .eq 12, 3) := by decide +kernel
theorem dMo_isChannel_14 : decode cMo_isChannel 14 = .ok (.iload_n 0, 1) := by decide +kernel
theorem dMo_isChannel_15 : decode cMo_isChannel 15 = .ok (.iload_n 1, 1) := by decide +kernel
theorem dMo_isChannel_16 : decode cMo_isChannel 16 = .ok (.if_icmp .eq 7, 3) := by decide +kernel
theorem dMo_isChannel_19 : decode cMo_isChannel 19 = .ok (.iconst 1, 1) := by decide +kernel
theorem dMo_isChannel_20 : decode cMo_isChannel 20 = .ok (.goto 4, 3) := by decide +kernel
theorem dMo_isChannel_23 : decode cMo_isChannel 23 = .ok (.iconst 0, 1) := by decide +kernel
theorem dMo_isChannel_24 : decode cMo_isChannel 24 = .ok (.ireturn, 1) := by decide +kernel
theorem dMo_isLock_0 : decode cMo_isLock 0 = .ok (.iload_n 0, 1) := by decide +kernel
theorem dMo_isLock_1 : decode cMo_isLock 1 = .ok (.ifCond .lt 19, 3) := by decide +kernel
theorem dMo_isLock_4 : decode cMo_isLock 4 = .ok (.iload_n 0, 1) := by decide +kernel
theorem dMo_isLock_5 : decode cMo_isLock 5 = .ok (.iconst 3, 1) := by decide +kernel
theorem dMo_isLock_6 : decode cMo_isLock 6 = .ok (.if_icmp .ge 14, 3) := by decide +kernel
theorem dMo_isLock_9 : decode cMo_isLock 9 = .ok (.iload_n 1, 1) := by decide +kernel
theorem dMo_isLock_10 : decode cMo_isLock 10 = .ok (.invokestatic 103, 3) := by decide +kernel
theorem dMo_isLock_13 : decode cMo_isLock 13 = .ok (.ifCond .eq 7, 3) := by decide +kernel
theorem dMo_isLock_16 : decode cMo_isLock 16 = .ok (.iconst 1, 1) := by decide +kernel
theorem dMo_isLock_17 : decode cMo_isLock 17 = .ok (.goto 4, 3) := by decide +kernel
theorem dMo_isLock_20 : decode cMo_isLock 20 = .ok (.iconst 0, 1) := by decide +kernel
theorem dMo_isLock_21 : decode cMo_isLock 21 = .ok (.ireturn, 1) := by decide +kernel
theorem dMo_isService_0 : decode cMo_isService 0 = .ok (.iload_n 0, 1) := by decide +kernel
theorem dMo_isService_1 : decode cMo_isService 1 = .ok (.ifCond .lt 19, 3) := by decide +kernel
theorem dMo_isService_4 : decode cMo_isService 4 = .ok (.iload_n 0, 1) := by decide +kernel
theorem dMo_isService_5 : decode cMo_isService 5 = .ok (.iconst 5, 1) := by decide +kernel
theorem dMo_isService_6 : decode cMo_isService 6 = .ok (.if_icmp .ge 14, 3) := by decide +kernel
theorem dMo_isService_9 : decode cMo_isService 9 = .ok (.iload_n 1, 1) := by decide +kernel
theorem dMo_isService_10 : decode cMo_isService 10 = .ok (.invokestatic 103, 3) := by decide +kernel
theorem dMo_isService_13 : decode cMo_isService 13 = .ok (.ifCond .eq 7, 3) := by decide +kernel
theorem dMo_isService_16 : decode cMo_isService 16 = .ok (.iconst 1, 1) := by decide +kernel
theorem dMo_isService_17 : decode cMo_isService 17 = .ok (.goto 4, 3) := by decide +kernel
theorem dMo_isService_20 : decode cMo_isService 20 = .ok (.iconst 0, 1) := by decide +kernel
theorem dMo_isService_21 : decode cMo_isService 21 = .ok (.ireturn, 1) := by decide +kernel
theorem dMo_send_0 : decode cMo_send 0 = .ok (.aload_n 0, 1) := by decide +kernel
theorem dMo_send_1 : decode cMo_send 1 = .ok (.getfield 28, 3) := by decide +kernel
theorem dMo_send_4 : decode cMo_send 4 = .ok (.istore 6, 2) := by decide +kernel
theorem dMo_send_6 : decode cMo_send 6 = .ok (.iload 6, 2) := by decide +kernel
theorem dMo_send_8 : decode cMo_send 8 = .ok (.ifCond .lt 17, 3) := by decide +kernel
theorem dMo_send_11 : decode cMo_send 11 = .ok (.aload_n 0, 1) := by decide +kernel
theorem dMo_send_12 : decode cMo_send 12 = .ok (.aload_n 0, 1) := by decide +kernel
theorem dMo_send_13 : decode cMo_send 13 = .ok (.getfield 25, 3) := by decide +kernel
theorem dMo_send_16 : decode cMo_send 16 = .ok (.iload 6, 2) := by decide +kernel
theorem dMo_send_18 : decode cMo_send 18 = .ok (.iaload, 1) := by decide +kernel
theorem dMo_send_19 : decode cMo_send 19 = .ok (.putfield 28, 3) := by decide +kernel
theorem dMo_send_22 : decode cMo_send 22 = .ok (.goto 19, 3) := by decide +kernel
theorem dMo_send_25 : decode cMo_send 25 = .ok (.aload_n 0, 1) := by decide +kernel
theorem dMo_send_26 : decode cMo_send 26 = .ok (.getfield 93, 3) := by decide +kernel
theorem dMo_send_29 : decode cMo_send 29 = .ok (.istore 6, 2) := by decide +kernel
theorem dMo_send_31 : decode cMo_send 31 = .ok (.aload_n 0, 1) := by decide +kernel
theorem dMo_send_32 : decode cMo_send 32 = .ok (.dup, 1) := by decide +kernel
theorem dMo_send_33 : decode cMo_send 33 = .ok (.getfield 93, 3) := by decide +kernel
theorem dMo_send_36 : decode cMo_send 36 = .ok (.iconst 1, 1) := by decide +kernel
theorem dMo_send_37 : decode cMo_send 37 = .ok (.iadd, 1) := by decide +kernel
theorem dMo_send_38 : decode cMo_send 38 = .ok (.putfield 93, 3) := by decide +kernel
theorem dMo_send_41 : decode cMo_send 41 = .ok (.aload_n 0, 1) := by decide +kernel
theorem dMo_send_42 : decode cMo_send 42 = .ok (.getfield 19, 3) := by decide +kernel
theorem dMo_send_45 : decode cMo_send 45 = .ok (.iload 6, 2) := by decide +kernel
theorem dMo_send_47 : decode cMo_send 47 = .ok (.bipush 10, 2) := by decide +kernel
theorem dMo_send_49 : decode cMo_send 49 = .ok (.iload_n 3, 1) := by decide +kernel
theorem dMo_send_50 : decode cMo_send 50 = .ok (.imul, 1) := by decide +kernel
theorem dMo_send_51 : decode cMo_send 51 = .ok (.iload 4, 2) := by decide +kernel
theorem dMo_send_53 : decode cMo_send 53 = .ok (.iadd, 1) := by decide +kernel
theorem dMo_send_54 : decode cMo_send 54 = .ok (.iastore, 1) := by decide +kernel
theorem dMo_send_55 : decode cMo_send 55 = .ok (.aload_n 0, 1) := by decide +kernel
theorem dMo_send_56 : decode cMo_send 56 = .ok (.getfield 22, 3) := by decide +kernel
theorem dMo_send_59 : decode cMo_send 59 = .ok (.iload 6, 2) := by decide +kernel
theorem dMo_send_61 : decode cMo_send 61 = .ok (.iload 5, 2) := by decide +kernel
theorem dMo_send_63 : decode cMo_send 63 = .ok (.iastore, 1) := by decide +kernel
theorem dMo_send_64 : decode cMo_send 64 = .ok (.aload_n 0, 1) := by decide +kernel
theorem dMo_send_65 : decode cMo_send 65 = .ok (.getfield 25, 3) := by decide +kernel
theorem dMo_send_68 : decode cMo_send 68 = .ok (.iload 6, 2) := by decide +kernel
theorem dMo_send_70 : decode cMo_send 70 = .ok (.iconst (-1), 1) := by decide +kernel
theorem dMo_send_71 : decode cMo_send 71 = .ok (.iastore, 1) := by decide +kernel
theorem dMo_send_72 : decode cMo_send 72 = .ok (.iconst 4, 1) := by decide +kernel
theorem dMo_send_73 : decode cMo_send 73 = .ok (.iload_n 1, 1) := by decide +kernel
theorem dMo_send_74 : decode cMo_send 74 = .ok (.imul, 1) := by decide +kernel
theorem dMo_send_75 : decode cMo_send 75 = .ok (.iload_n 2, 1) := by decide +kernel
theorem dMo_send_76 : decode cMo_send 76 = .ok (.iadd, 1) := by decide +kernel
theorem dMo_send_77 : decode cMo_send 77 = .ok (.istore 7, 2) := by decide +kernel
theorem dMo_send_79 : decode cMo_send 79 = .ok (.aload_n 0, 1) := by decide +kernel
theorem dMo_send_80 : decode cMo_send 80 = .ok (.getfield 7, 3) := by decide +kernel
theorem dMo_send_83 : decode cMo_send 83 = .ok (.iload 7, 2) := by decide +kernel
theorem dMo_send_85 : decode cMo_send 85 = .ok (.iaload, 1) := by decide +kernel
theorem dMo_send_86 : decode cMo_send 86 = .ok (.ifCond .ge 15, 3) := by decide +kernel
theorem dMo_send_89 : decode cMo_send 89 = .ok (.aload_n 0, 1) := by decide +kernel
theorem dMo_send_90 : decode cMo_send 90 = .ok (.getfield 7, 3) := by decide +kernel
theorem dMo_send_93 : decode cMo_send 93 = .ok (.iload 7, 2) := by decide +kernel
theorem dMo_send_95 : decode cMo_send 95 = .ok (.iload 6, 2) := by decide +kernel
theorem dMo_send_97 : decode cMo_send 97 = .ok (.iastore, 1) := by decide +kernel
theorem dMo_send_98 : decode cMo_send 98 = .ok (.goto 17, 3) := by decide +kernel
theorem dMo_send_101 : decode cMo_send 101 = .ok (.aload_n 0, 1) := by decide +kernel
theorem dMo_send_102 : decode cMo_send 102 = .ok (.getfield 25, 3) := by decide +kernel
theorem dMo_send_105 : decode cMo_send 105 = .ok (.aload_n 0, 1) := by decide +kernel
theorem dMo_send_106 : decode cMo_send 106 = .ok (.getfield 13, 3) := by decide +kernel
theorem dMo_send_109 : decode cMo_send 109 = .ok (.iload 7, 2) := by decide +kernel
theorem dMo_send_111 : decode cMo_send 111 = .ok (.iaload, 1) := by decide +kernel
theorem dMo_send_112 : decode cMo_send 112 = .ok (.iload 6, 2) := by decide +kernel
theorem dMo_send_114 : decode cMo_send 114 = .ok (.iastore, 1) := by decide +kernel
theorem dMo_send_115 : decode cMo_send 115 = .ok (.aload_n 0, 1) := by decide +kernel
theorem dMo_send_116 : decode cMo_send 116 = .ok (.getfield 13, 3) := by decide +kernel
theorem dMo_send_119 : decode cMo_send 119 = .ok (.iload 7, 2) := by decide +kernel
theorem dMo_send_121 : decode cMo_send 121 = .ok (.iload 6, 2) := by decide +kernel
theorem dMo_send_123 : decode cMo_send 123 = .ok (.iastore, 1) := by decide +kernel
theorem dMo_send_124 : decode cMo_send 124 = .ok (.aload_n 0, 1) := by decide +kernel
theorem dMo_send_125 : decode cMo_send 125 = .ok (.getfield 16, 3) := by decide +kernel
theorem dMo_send_128 : decode cMo_send 128 = .ok (.iload 7, 2) := by decide +kernel
theorem dMo_send_130 : decode cMo_send 130 = .ok (.dup2, 1) := by decide +kernel
theorem dMo_send_131 : decode cMo_send 131 = .ok (.iaload, 1) := by decide +kernel
theorem dMo_send_132 : decode cMo_send 132 = .ok (.iconst 1, 1) := by decide +kernel
theorem dMo_send_133 : decode cMo_send 133 = .ok (.iadd, 1) := by decide +kernel
theorem dMo_send_134 : decode cMo_send 134 = .ok (.iastore, 1) := by decide +kernel
theorem dMo_send_135 : decode cMo_send 135 = .ok (.aload_n 0, 1) := by decide +kernel
theorem dMo_send_136 : decode cMo_send 136 = .ok (.dup, 1) := by decide +kernel
theorem dMo_send_137 : decode cMo_send 137 = .ok (.getfield 96, 3) := by decide +kernel
theorem dMo_send_140 : decode cMo_send 140 = .ok (.iconst 1, 1) := by decide +kernel
theorem dMo_send_141 : decode cMo_send 141 = .ok (.iadd, 1) := by decide +kernel
theorem dMo_send_142 : decode cMo_send 142 = .ok (.putfield 96, 3) := by decide +kernel
theorem dMo_send_145 : decode cMo_send 145 = .ok (.return_, 1) := by decide +kernel
theorem dMo_sendAll_0 : decode cMo_sendAll 0 = .ok (.iconst 0, 1) := by decide +kernel
theorem dMo_sendAll_1 : decode cMo_sendAll 1 = .ok (.istore 5, 2) := by decide +kernel
theorem dMo_sendAll_3 : decode cMo_sendAll 3 = .ok (.iload 5, 2) := by decide +kernel
theorem dMo_sendAll_5 : decode cMo_sendAll 5 = .ok (.iconst 4, 1) := by decide +kernel
theorem dMo_sendAll_6 : decode cMo_sendAll 6 = .ok (.if_icmp .ge 26, 3) := by decide +kernel
theorem dMo_sendAll_9 : decode cMo_sendAll 9 = .ok (.iload 5, 2) := by decide +kernel
theorem dMo_sendAll_11 : decode cMo_sendAll 11 = .ok (.iload_n 1, 1) := by decide +kernel
theorem dMo_sendAll_12 : decode cMo_sendAll 12 = .ok (.if_icmp .eq 14, 3) := by decide +kernel
theorem dMo_sendAll_15 : decode cMo_sendAll 15 = .ok (.aload_n 0, 1) := by decide +kernel
theorem dMo_sendAll_16 : decode cMo_sendAll 16 = .ok (.iload_n 1, 1) := by decide +kernel
theorem dMo_sendAll_17 : decode cMo_sendAll 17 = .ok (.iload 5, 2) := by decide +kernel
theorem dMo_sendAll_19 : decode cMo_sendAll 19 = .ok (.iload_n 2, 1) := by decide +kernel
theorem dMo_sendAll_20 : decode cMo_sendAll 20 = .ok (.iload_n 3, 1) := by decide +kernel
theorem dMo_sendAll_21 : decode cMo_sendAll 21 = .ok (.iload 4, 2) := by decide +kernel
theorem dMo_sendAll_23 : decode cMo_sendAll 23 = .ok (.invokevirtual 99, 3) := by decide +kernel
theorem dMo_sendAll_26 : decode cMo_sendAll 26 = .ok (.iinc 5 1, 3) := by decide +kernel
theorem dMo_sendAll_29 : decode cMo_sendAll 29 = .ok (.goto (-26), 3) := by decide +kernel
theorem dMo_sendAll_32 : decode cMo_sendAll 32 = .ok (.return_, 1) := by decide +kernel
theorem dMo_comeIn_0 : decode cMo_comeIn 0 = .ok (.aload_n 0, 1) := by decide +kernel
theorem dMo_comeIn_1 : decode cMo_comeIn 1 = .ok (.getfield 32, 3) := by decide +kernel
theorem dMo_comeIn_4 : decode cMo_comeIn 4 = .ok (.iconst 4, 1) := by decide +kernel
theorem dMo_comeIn_5 : decode cMo_comeIn 5 = .ok (.iload_n 1, 1) := by decide +kernel
theorem dMo_comeIn_6 : decode cMo_comeIn 6 = .ok (.imul, 1) := by decide +kernel
theorem dMo_comeIn_7 : decode cMo_comeIn 7 = .ok (.iload_n 2, 1) := by decide +kernel
theorem dMo_comeIn_8 : decode cMo_comeIn 8 = .ok (.iadd, 1) := by decide +kernel
theorem dMo_comeIn_9 : decode cMo_comeIn 9 = .ok (.iconst 2, 1) := by decide +kernel
theorem dMo_comeIn_10 : decode cMo_comeIn 10 = .ok (.iastore, 1) := by decide +kernel
theorem dMo_comeIn_11 : decode cMo_comeIn 11 = .ok (.aload_n 0, 1) := by decide +kernel
theorem dMo_comeIn_12 : decode cMo_comeIn 12 = .ok (.dup, 1) := by decide +kernel
theorem dMo_comeIn_13 : decode cMo_comeIn 13 = .ok (.getfield 128, 3) := by decide +kernel
theorem dMo_comeIn_16 : decode cMo_comeIn 16 = .ok (.iconst 1, 1) := by decide +kernel
theorem dMo_comeIn_17 : decode cMo_comeIn 17 = .ok (.iadd, 1) := by decide +kernel
theorem dMo_comeIn_18 : decode cMo_comeIn 18 = .ok (.putfield 128, 3) := by decide +kernel
theorem dMo_comeIn_21 : decode cMo_comeIn 21 = .ok (.return_, 1) := by decide +kernel
theorem dMo_isDue_0 : decode cMo_isDue 0 = .ok (.aload_n 0, 1) := by decide +kernel
theorem dMo_isDue_1 : decode cMo_isDue 1 = .ok (.getfield 47, 3) := by decide +kernel
theorem dMo_isDue_4 : decode cMo_isDue 4 = .ok (.iconst 4, 1) := by decide +kernel
theorem dMo_isDue_5 : decode cMo_isDue 5 = .ok (.iload_n 1, 1) := by decide +kernel
theorem dMo_isDue_6 : decode cMo_isDue 6 = .ok (.imul, 1) := by decide +kernel
theorem dMo_isDue_7 : decode cMo_isDue 7 = .ok (.iload_n 2, 1) := by decide +kernel
theorem dMo_isDue_8 : decode cMo_isDue 8 = .ok (.iadd, 1) := by decide +kernel
theorem dMo_isDue_9 : decode cMo_isDue 9 = .ok (.iaload, 1) := by decide +kernel
theorem dMo_isDue_10 : decode cMo_isDue 10 = .ok (.aload_n 0, 1) := by decide +kernel
theorem dMo_isDue_11 : decode cMo_isDue 11 = .ok (.getfield 50, 3) := by decide +kernel
theorem dMo_isDue_14 : decode cMo_isDue 14 = .ok (.iload_n 2, 1) := by decide +kernel
theorem dMo_isDue_15 : decode cMo_isDue 15 = .ok (.iaload, 1) := by decide +kernel
theorem dMo_isDue_16 : decode cMo_isDue 16 = .ok (.iconst 1, 1) := by decide +kernel
theorem dMo_isDue_17 : decode cMo_isDue 17 = .ok (.iadd, 1) := by decide +kernel
theorem dMo_isDue_18 : decode cMo_isDue 18 = .ok (.if_icmp .ne 7, 3) := by decide +kernel
theorem dMo_isDue_21 : decode cMo_isDue 21 = .ok (.iconst 1, 1) := by decide +kernel
theorem dMo_isDue_22 : decode cMo_isDue 22 = .ok (.goto 4, 3) := by decide +kernel
theorem dMo_isDue_25 : decode cMo_isDue 25 = .ok (.iconst 0, 1) := by decide +kernel
theorem dMo_isDue_26 : decode cMo_isDue 26 = .ok (.ireturn, 1) := by decide +kernel
theorem dMo_enqueue_0 : decode cMo_enqueue 0 = .ok (.aload_n 0, 1) := by decide +kernel
theorem dMo_enqueue_1 : decode cMo_enqueue 1 = .ok (.getfield 62, 3) := by decide +kernel
theorem dMo_enqueue_4 : decode cMo_enqueue 4 = .ok (.bipush 8, 2) := by decide +kernel
theorem dMo_enqueue_6 : decode cMo_enqueue 6 = .ok (.iload_n 1, 1) := by decide +kernel
theorem dMo_enqueue_7 : decode cMo_enqueue 7 = .ok (.imul, 1) := by decide +kernel
theorem dMo_enqueue_8 : decode cMo_enqueue 8 = .ok (.aload_n 0, 1) := by decide +kernel
theorem dMo_enqueue_9 : decode cMo_enqueue 9 = .ok (.getfield 59, 3) := by decide +kernel
theorem dMo_enqueue_12 : decode cMo_enqueue 12 = .ok (.iload_n 1, 1) := by decide +kernel
theorem dMo_enqueue_13 : decode cMo_enqueue 13 = .ok (.iaload, 1) := by decide +kernel
theorem dMo_enqueue_14 : decode cMo_enqueue 14 = .ok (.iadd, 1) := by decide +kernel
theorem dMo_enqueue_15 : decode cMo_enqueue 15 = .ok (.iload_n 2, 1) := by decide +kernel
theorem dMo_enqueue_16 : decode cMo_enqueue 16 = .ok (.iastore, 1) := by decide +kernel
theorem dMo_enqueue_17 : decode cMo_enqueue 17 = .ok (.aload_n 0, 1) := by decide +kernel
theorem dMo_enqueue_18 : decode cMo_enqueue 18 = .ok (.getfield 59, 3) := by decide +kernel
theorem dMo_enqueue_21 : decode cMo_enqueue 21 = .ok (.iload_n 1, 1) := by decide +kernel
theorem dMo_enqueue_22 : decode cMo_enqueue 22 = .ok (.dup2, 1) := by decide +kernel
theorem dMo_enqueue_23 : decode cMo_enqueue 23 = .ok (.iaload, 1) := by decide +kernel
theorem dMo_enqueue_24 : decode cMo_enqueue 24 = .ok (.iconst 1, 1) := by decide +kernel
theorem dMo_enqueue_25 : decode cMo_enqueue 25 = .ok (.iadd, 1) := by decide +kernel
theorem dMo_enqueue_26 : decode cMo_enqueue 26 = .ok (.iastore, 1) := by decide +kernel
theorem dMo_enqueue_27 : decode cMo_enqueue 27 = .ok (.return_, 1) := by decide +kernel
theorem dMo_dequeue_0 : decode cMo_dequeue 0 = .ok (.aload_n 0, 1) := by decide +kernel
theorem dMo_dequeue_1 : decode cMo_dequeue 1 = .ok (.getfield 62, 3) := by decide +kernel
theorem dMo_dequeue_4 : decode cMo_dequeue 4 = .ok (.bipush 8, 2) := by decide +kernel
theorem dMo_dequeue_6 : decode cMo_dequeue 6 = .ok (.iload_n 1, 1) := by decide +kernel
theorem dMo_dequeue_7 : decode cMo_dequeue 7 = .ok (.imul, 1) := by decide +kernel
theorem dMo_dequeue_8 : decode cMo_dequeue 8 = .ok (.iaload, 1) := by decide +kernel
theorem dMo_dequeue_9 : decode cMo_dequeue 9 = .ok (.istore_n 2, 1) := by decide +kernel
theorem dMo_dequeue_10 : decode cMo_dequeue 10 = .ok (.aload_n 0, 1) := by decide +kernel
theorem dMo_dequeue_11 : decode cMo_dequeue 11 = .ok (.getfield 59, 3) := by decide +kernel
theorem dMo_dequeue_14 : decode cMo_dequeue 14 = .ok (.iload_n 1, 1) := by decide +kernel
theorem dMo_dequeue_15 : decode cMo_dequeue 15 = .ok (.dup2, 1) := by decide +kernel
theorem dMo_dequeue_16 : decode cMo_dequeue 16 = .ok (.iaload, 1) := by decide +kernel
theorem dMo_dequeue_17 : decode cMo_dequeue 17 = .ok (.iconst 1, 1) := by decide +kernel
theorem dMo_dequeue_18 : decode cMo_dequeue 18 = .ok (.isub, 1) := by decide +kernel
theorem dMo_dequeue_19 : decode cMo_dequeue 19 = .ok (.iastore, 1) := by decide +kernel
theorem dMo_dequeue_20 : decode cMo_dequeue 20 = .ok (.iconst 0, 1) := by decide +kernel
theorem dMo_dequeue_21 : decode cMo_dequeue 21 = .ok (.istore_n 3, 1) := by decide +kernel
theorem dMo_dequeue_22 : decode cMo_dequeue 22 = .ok (.iload_n 3, 1) := by decide +kernel
theorem dMo_dequeue_23 : decode cMo_dequeue 23 = .ok (.aload_n 0, 1) := by decide +kernel
theorem dMo_dequeue_24 : decode cMo_dequeue 24 = .ok (.getfield 59, 3) := by decide +kernel
theorem dMo_dequeue_27 : decode cMo_dequeue 27 = .ok (.iload_n 1, 1) := by decide +kernel
theorem dMo_dequeue_28 : decode cMo_dequeue 28 = .ok (.iaload, 1) := by decide +kernel
theorem dMo_dequeue_29 : decode cMo_dequeue 29 = .ok (.if_icmp .ge 33, 3) := by decide +kernel
theorem dMo_dequeue_32 : decode cMo_dequeue 32 = .ok (.aload_n 0, 1) := by decide +kernel
theorem dMo_dequeue_33 : decode cMo_dequeue 33 = .ok (.getfield 62, 3) := by decide +kernel
theorem dMo_dequeue_36 : decode cMo_dequeue 36 = .ok (.bipush 8, 2) := by decide +kernel
theorem dMo_dequeue_38 : decode cMo_dequeue 38 = .ok (.iload_n 1, 1) := by decide +kernel
theorem dMo_dequeue_39 : decode cMo_dequeue 39 = .ok (.imul, 1) := by decide +kernel
theorem dMo_dequeue_40 : decode cMo_dequeue 40 = .ok (.iload_n 3, 1) := by decide +kernel
theorem dMo_dequeue_41 : decode cMo_dequeue 41 = .ok (.iadd, 1) := by decide +kernel
theorem dMo_dequeue_42 : decode cMo_dequeue 42 = .ok (.aload_n 0, 1) := by decide +kernel
theorem dMo_dequeue_43 : decode cMo_dequeue 43 = .ok (.getfield 62, 3) := by decide +kernel
theorem dMo_dequeue_46 : decode cMo_dequeue 46 = .ok (.bipush 8, 2) := by decide +kernel
theorem dMo_dequeue_48 : decode cMo_dequeue 48 = .ok (.iload_n 1, 1) := by decide +kernel
theorem dMo_dequeue_49 : decode cMo_dequeue 49 = .ok (.imul, 1) := by decide +kernel
theorem dMo_dequeue_50 : decode cMo_dequeue 50 = .ok (.iload_n 3, 1) := by decide +kernel
theorem dMo_dequeue_51 : decode cMo_dequeue 51 = .ok (.iadd, 1) := by decide +kernel
theorem dMo_dequeue_52 : decode cMo_dequeue 52 = .ok (.iconst 1, 1) := by decide +kernel
theorem dMo_dequeue_53 : decode cMo_dequeue 53 = .ok (.iadd, 1) := by decide +kernel
theorem dMo_dequeue_54 : decode cMo_dequeue 54 = .ok (.iaload, 1) := by decide +kernel
theorem dMo_dequeue_55 : decode cMo_dequeue 55 = .ok (.iastore, 1) := by decide +kernel
theorem dMo_dequeue_56 : decode cMo_dequeue 56 = .ok (.iinc 3 1, 3) := by decide +kernel
theorem dMo_dequeue_59 : decode cMo_dequeue 59 = .ok (.goto (-37), 3) := by decide +kernel
theorem dMo_dequeue_62 : decode cMo_dequeue 62 = .ok (.iload_n 2, 1) := by decide +kernel
theorem dMo_dequeue_63 : decode cMo_dequeue 63 = .ok (.ireturn, 1) := by decide +kernel
theorem dMo_goOn_0 : decode cMo_goOn 0 = .ok (.aload_n 0, 1) := by decide +kernel
theorem dMo_goOn_1 : decode cMo_goOn 1 = .ok (.getfield 56, 3) := by decide +kernel
theorem dMo_goOn_4 : decode cMo_goOn 4 = .ok (.iload_n 1, 1) := by decide +kernel
theorem dMo_goOn_5 : decode cMo_goOn 5 = .ok (.iaload, 1) := by decide +kernel
theorem dMo_goOn_6 : decode cMo_goOn 6 = .ok (.iload_n 1, 1) := by decide +kernel
theorem dMo_goOn_7 : decode cMo_goOn 7 = .ok (.if_icmp .ne 68, 3) := by decide +kernel
theorem dMo_goOn_10 : decode cMo_goOn 10 = .ok (.aload_n 0, 1) := by decide +kernel
theorem dMo_goOn_11 : decode cMo_goOn 11 = .ok (.getfield 32, 3) := by decide +kernel
theorem dMo_goOn_14 : decode cMo_goOn 14 = .ok (.bipush 8, 2) := by decide +kernel
theorem dMo_goOn_16 : decode cMo_goOn 16 = .ok (.iload_n 1, 1) := by decide +kernel
theorem dMo_goOn_17 : decode cMo_goOn 17 = .ok (.iadd, 1) := by decide +kernel
theorem dMo_goOn_18 : decode cMo_goOn 18 = .ok (.iaload, 1) := by decide +kernel
theorem dMo_goOn_19 : decode cMo_goOn 19 = .ok (.iconst 2, 1) := by decide +kernel
theorem dMo_goOn_20 : decode cMo_goOn 20 = .ok (.if_icmp .eq 55, 3) := by decide +kernel
theorem dMo_goOn_23 : decode cMo_goOn 23 = .ok (.aload_n 0, 1) := by decide +kernel
theorem dMo_goOn_24 : decode cMo_goOn 24 = .ok (.getfield 59, 3) := by decide +kernel
theorem dMo_goOn_27 : decode cMo_goOn 27 = .ok (.iload_n 1, 1) := by decide +kernel
theorem dMo_goOn_28 : decode cMo_goOn 28 = .ok (.iaload, 1) := by decide +kernel
theorem dMo_goOn_29 : decode cMo_goOn 29 = .ok (.ifCond .le 46, 3) := by decide +kernel
theorem dMo_goOn_32 : decode cMo_goOn 32 = .ok (.aload_n 0, 1) := by decide +kernel
theorem dMo_goOn_33 : decode cMo_goOn 33 = .ok (.iload_n 1, 1) := by decide +kernel
theorem dMo_goOn_34 : decode cMo_goOn 34 = .ok (.invokevirtual 160, 3) := by decide +kernel
theorem dMo_goOn_37 : decode cMo_goOn 37 = .ok (.istore_n 2, 1) := by decide +kernel
theorem dMo_goOn_38 : decode cMo_goOn 38 = .ok (.aload_n 0, 1) := by decide +kernel
theorem dMo_goOn_39 : decode cMo_goOn 39 = .ok (.getfield 65, 3) := by decide +kernel
theorem dMo_goOn_42 : decode cMo_goOn 42 = .ok (.iload_n 1, 1) := by decide +kernel
theorem dMo_goOn_43 : decode cMo_goOn 43 = .ok (.iconst 0, 1) := by decide +kernel
theorem dMo_goOn_44 : decode cMo_goOn 44 = .ok (.bastore, 1) := by decide +kernel
theorem dMo_goOn_45 : decode cMo_goOn 45 = .ok (.iload_n 2, 1) := by decide +kernel
theorem dMo_goOn_46 : decode cMo_goOn 46 = .ok (.iload_n 1, 1) := by decide +kernel
theorem dMo_goOn_47 : decode cMo_goOn 47 = .ok (.if_icmp .ne 12, 3) := by decide +kernel
theorem dMo_goOn_50 : decode cMo_goOn 50 = .ok (.aload_n 0, 1) := by decide +kernel
theorem dMo_goOn_51 : decode cMo_goOn 51 = .ok (.iconst 2, 1) := by decide +kernel
theorem dMo_goOn_52 : decode cMo_goOn 52 = .ok (.iload_n 1, 1) := by decide +kernel
theorem dMo_goOn_53 : decode cMo_goOn 53 = .ok (.invokevirtual 137, 3) := by decide +kernel
theorem dMo_goOn_56 : decode cMo_goOn 56 = .ok (.goto 19, 3) := by decide +kernel
theorem dMo_goOn_59 : decode cMo_goOn 59 = .ok (.aload_n 0, 1) := by decide +kernel
theorem dMo_goOn_60 : decode cMo_goOn 60 = .ok (.getfield 56, 3) := by decide +kernel
theorem dMo_goOn_63 : decode cMo_goOn 63 = .ok (.iload_n 1, 1) := by decide +kernel
theorem dMo_goOn_64 : decode cMo_goOn 64 = .ok (.iload_n 2, 1) := by decide +kernel
theorem dMo_goOn_65 : decode cMo_goOn 65 = .ok (.iastore, 1) := by decide +kernel
theorem dMo_goOn_66 : decode cMo_goOn 66 = .ok (.aload_n 0, 1) := by decide +kernel
theorem dMo_goOn_67 : decode cMo_goOn 67 = .ok (.iload_n 1, 1) := by decide +kernel
theorem dMo_goOn_68 : decode cMo_goOn 68 = .ok (.iload_n 2, 1) := by decide +kernel
theorem dMo_goOn_69 : decode cMo_goOn 69 = .ok (.iconst 2, 1) := by decide +kernel
theorem dMo_goOn_70 : decode cMo_goOn 70 = .ok (.iconst 1, 1) := by decide +kernel
theorem dMo_goOn_71 : decode cMo_goOn 71 = .ok (.iconst 0, 1) := by decide +kernel
theorem dMo_goOn_72 : decode cMo_goOn 72 = .ok (.invokevirtual 99, 3) := by decide +kernel
theorem dMo_goOn_75 : decode cMo_goOn 75 = .ok (.aload_n 0, 1) := by decide +kernel
theorem dMo_goOn_76 : decode cMo_goOn 76 = .ok (.getfield 56, 3) := by decide +kernel
theorem dMo_goOn_79 : decode cMo_goOn 79 = .ok (.iload_n 1, 1) := by decide +kernel
theorem dMo_goOn_80 : decode cMo_goOn 80 = .ok (.iaload, 1) := by decide +kernel
theorem dMo_goOn_81 : decode cMo_goOn 81 = .ok (.iload_n 1, 1) := by decide +kernel
theorem dMo_goOn_82 : decode cMo_goOn 82 = .ok (.if_icmp .eq 42, 3) := by decide +kernel
theorem dMo_goOn_85 : decode cMo_goOn 85 = .ok (.aload_n 0, 1) := by decide +kernel
theorem dMo_goOn_86 : decode cMo_goOn 86 = .ok (.getfield 59, 3) := by decide +kernel
theorem dMo_goOn_89 : decode cMo_goOn 89 = .ok (.iload_n 1, 1) := by decide +kernel
theorem dMo_goOn_90 : decode cMo_goOn 90 = .ok (.iaload, 1) := by decide +kernel
theorem dMo_goOn_91 : decode cMo_goOn 91 = .ok (.ifCond .le 33, 3) := by decide +kernel
theorem dMo_goOn_94 : decode cMo_goOn 94 = .ok (.aload_n 0, 1) := by decide +kernel
theorem dMo_goOn_95 : decode cMo_goOn 95 = .ok (.getfield 65, 3) := by decide +kernel
theorem dMo_goOn_98 : decode cMo_goOn 98 = .ok (.iload_n 1, 1) := by decide +kernel
theorem dMo_goOn_99 : decode cMo_goOn 99 = .ok (.baload, 1) := by decide +kernel
theorem dMo_goOn_100 : decode cMo_goOn 100 = .ok (.ifCond .ne 24, 3) := by decide +kernel
theorem dMo_goOn_103 : decode cMo_goOn 103 = .ok (.aload_n 0, 1) := by decide +kernel
theorem dMo_goOn_104 : decode cMo_goOn 104 = .ok (.getfield 65, 3) := by decide +kernel
theorem dMo_goOn_107 : decode cMo_goOn 107 = .ok (.iload_n 1, 1) := by decide +kernel
theorem dMo_goOn_108 : decode cMo_goOn 108 = .ok (.iconst 1, 1) := by decide +kernel
theorem dMo_goOn_109 : decode cMo_goOn 109 = .ok (.bastore, 1) := by decide +kernel
theorem dMo_goOn_110 : decode cMo_goOn 110 = .ok (.aload_n 0, 1) := by decide +kernel
theorem dMo_goOn_111 : decode cMo_goOn 111 = .ok (.iload_n 1, 1) := by decide +kernel
theorem dMo_goOn_112 : decode cMo_goOn 112 = .ok (.aload_n 0, 1) := by decide +kernel
theorem dMo_goOn_113 : decode cMo_goOn 113 = .ok (.getfield 56, 3) := by decide +kernel
theorem dMo_goOn_116 : decode cMo_goOn 116 = .ok (.iload_n 1, 1) := by decide +kernel
theorem dMo_goOn_117 : decode cMo_goOn 117 = .ok (.iaload, 1) := by decide +kernel
theorem dMo_goOn_118 : decode cMo_goOn 118 = .ok (.iconst 2, 1) := by decide +kernel
theorem dMo_goOn_119 : decode cMo_goOn 119 = .ok (.iconst 0, 1) := by decide +kernel
theorem dMo_goOn_120 : decode cMo_goOn 120 = .ok (.iconst 0, 1) := by decide +kernel
theorem dMo_goOn_121 : decode cMo_goOn 121 = .ok (.invokevirtual 99, 3) := by decide +kernel
theorem dMo_goOn_124 : decode cMo_goOn 124 = .ok (.return_, 1) := by decide +kernel
theorem dMo_passToken_0 : decode cMo_passToken 0 = .ok (.aload_n 0, 1) := by decide +kernel
theorem dMo_passToken_1 : decode cMo_passToken 1 = .ok (.getfield 50, 3) := by decide +kernel
theorem dMo_passToken_4 : decode cMo_passToken 4 = .ok (.iload_n 1, 1) := by decide +kernel
theorem dMo_passToken_5 : decode cMo_passToken 5 = .ok (.aload_n 0, 1) := by decide +kernel
theorem dMo_passToken_6 : decode cMo_passToken 6 = .ok (.getfield 47, 3) := by decide +kernel
theorem dMo_passToken_9 : decode cMo_passToken 9 = .ok (.iconst 5, 1) := by decide +kernel
theorem dMo_passToken_10 : decode cMo_passToken 10 = .ok (.iload_n 1, 1) := by decide +kernel
theorem dMo_passToken_11 : decode cMo_passToken 11 = .ok (.imul, 1) := by decide +kernel
theorem dMo_passToken_12 : decode cMo_passToken 12 = .ok (.iaload, 1) := by decide +kernel
theorem dMo_passToken_13 : decode cMo_passToken 13 = .ok (.iastore, 1) := by decide +kernel
theorem dMo_passToken_14 : decode cMo_passToken 14 = .ok (.iconst 0, 1) := by decide +kernel
theorem dMo_passToken_15 : decode cMo_passToken 15 = .ok (.istore_n 2, 1) := by decide +kernel
theorem dMo_passToken_16 : decode cMo_passToken 16 = .ok (.iload_n 2, 1) := by decide +kernel
theorem dMo_passToken_17 : decode cMo_passToken 17 = .ok (.iconst 4, 1) := by decide +kernel
theorem dMo_passToken_18 : decode cMo_passToken 18 = .ok (.if_icmp .ge 83, 3) := by decide +kernel
theorem dMo_passToken_21 : decode cMo_passToken 21 = .ok (.iconst 0, 1) := by decide +kernel
theorem dMo_passToken_22 : decode cMo_passToken 22 = .ok (.istore_n 3, 1) := by decide +kernel
theorem dMo_passToken_23 : decode cMo_passToken 23 = .ok (.iconst 0, 1) := by decide +kernel
theorem dMo_passToken_24 : decode cMo_passToken 24 = .ok (.istore 4, 2) := by decide +kernel
theorem dMo_passToken_26 : decode cMo_passToken 26 = .ok (.iload 4, 2) := by decide +kernel
theorem dMo_passToken_28 : decode cMo_passToken 28 = .ok (.aload_n 0, 1) := by decide +kernel
theorem dMo_passToken_29 : decode cMo_passToken 29 = .ok (.getfield 157, 3) := by decide +kernel
theorem dMo_passToken_32 : decode cMo_passToken 32 = .ok (.if_icmp .ge 30, 3) := by decide +kernel
theorem dMo_passToken_35 : decode cMo_passToken 35 = .ok (.iload_n 3, 1) := by decide +kernel
theorem dMo_passToken_36 : decode cMo_passToken 36 = .ok (.ifCond .ne 14, 3) := by decide +kernel
theorem dMo_passToken_39 : decode cMo_passToken 39 = .ok (.aload_n 0, 1) := by decide +kernel
theorem dMo_passToken_40 : decode cMo_passToken 40 = .ok (.getfield 53, 3) := by decide +kernel
theorem dMo_passToken_43 : decode cMo_passToken 43 = .ok (.iload 4, 2) := by decide +kernel
theorem dMo_passToken_45 : decode cMo_passToken 45 = .ok (.iaload, 1) := by decide +kernel
theorem dMo_passToken_46 : decode cMo_passToken 46 = .ok (.iload_n 2, 1) := by decide +kernel
theorem dMo_passToken_47 : decode cMo_passToken 47 = .ok (.if_icmp .ne 7, 3) := by decide +kernel
theorem dMo_passToken_50 : decode cMo_passToken 50 = .ok (.iconst 1, 1) := by decide +kernel
theorem dMo_passToken_51 : decode cMo_passToken 51 = .ok (.goto 4, 3) := by decide +kernel
theorem dMo_passToken_54 : decode cMo_passToken 54 = .ok (.iconst 0, 1) := by decide +kernel
theorem dMo_passToken_55 : decode cMo_passToken 55 = .ok (.istore_n 3, 1) := by decide +kernel
theorem dMo_passToken_56 : decode cMo_passToken 56 = .ok (.iinc 4 1, 3) := by decide +kernel
theorem dMo_passToken_59 : decode cMo_passToken 59 = .ok (.goto (-33), 3) := by decide +kernel
theorem dMo_passToken_62 : decode cMo_passToken 62 = .ok (.iload_n 3, 1) := by decide +kernel
theorem dMo_passToken_63 : decode cMo_passToken 63 = .ok (.ifCond .ne 32, 3) := by decide +kernel
theorem dMo_passToken_66 : decode cMo_passToken 66 = .ok (.aload_n 0, 1) := by decide +kernel
theorem dMo_passToken_67 : decode cMo_passToken 67 = .ok (.iload_n 1, 1) := by decide +kernel
theorem dMo_passToken_68 : decode cMo_passToken 68 = .ok (.iload_n 2, 1) := by decide +kernel
theorem dMo_passToken_69 : decode cMo_passToken 69 = .ok (.invokevirtual 154, 3) := by decide +kernel
theorem dMo_passToken_72 : decode cMo_passToken 72 = .ok (.ifCond .eq 23, 3) := by decide +kernel
theorem dMo_passToken_75 : decode cMo_passToken 75 = .ok (.aload_n 0, 1) := by decide +kernel
theorem dMo_passToken_76 : decode cMo_passToken 76 = .ok (.getfield 53, 3) := by decide +kernel
theorem dMo_passToken_79 : decode cMo_passToken 79 = .ok (.aload_n 0, 1) := by decide +kernel
theorem dMo_passToken_80 : decode cMo_passToken 80 = .ok (.getfield 157, 3) := by decide +kernel
theorem dMo_passToken_83 : decode cMo_passToken 83 = .ok (.iload_n 2, 1) := by decide +kernel
theorem dMo_passToken_84 : decode cMo_passToken 84 = .ok (.iastore, 1) := by decide +kernel
theorem dMo_passToken_85 : decode cMo_passToken 85 = .ok (.aload_n 0, 1) := by decide +kernel
theorem dMo_passToken_86 : decode cMo_passToken 86 = .ok (.dup, 1) := by decide +kernel
theorem dMo_passToken_87 : decode cMo_passToken 87 = .ok (.getfield 157, 3) := by decide +kernel
theorem dMo_passToken_90 : decode cMo_passToken 90 = .ok (.iconst 1, 1) := by decide +kernel
theorem dMo_passToken_91 : decode cMo_passToken 91 = .ok (.iadd, 1) := by decide +kernel
theorem dMo_passToken_92 : decode cMo_passToken 92 = .ok (.putfield 157, 3) := by decide +kernel
theorem dMo_passToken_95 : decode cMo_passToken 95 = .ok (.iinc 2 1, 3) := by decide +kernel
theorem dMo_passToken_98 : decode cMo_passToken 98 = .ok (.goto (-82), 3) := by decide +kernel
theorem dMo_passToken_101 : decode cMo_passToken 101 = .ok (.aload_n 0, 1) := by decide +kernel
theorem dMo_passToken_102 : decode cMo_passToken 102 = .ok (.getfield 157, 3) := by decide +kernel
theorem dMo_passToken_105 : decode cMo_passToken 105 = .ok (.ifCond .le 64, 3) := by decide +kernel
theorem dMo_passToken_108 : decode cMo_passToken 108 = .ok (.aload_n 0, 1) := by decide +kernel
theorem dMo_passToken_109 : decode cMo_passToken 109 = .ok (.getfield 53, 3) := by decide +kernel
theorem dMo_passToken_112 : decode cMo_passToken 112 = .ok (.iconst 0, 1) := by decide +kernel
theorem dMo_passToken_113 : decode cMo_passToken 113 = .ok (.iaload, 1) := by decide +kernel
theorem dMo_passToken_114 : decode cMo_passToken 114 = .ok (.istore_n 2, 1) := by decide +kernel
theorem dMo_passToken_115 : decode cMo_passToken 115 = .ok (.aload_n 0, 1) := by decide +kernel
theorem dMo_passToken_116 : decode cMo_passToken 116 = .ok (.dup, 1) := by decide +kernel
theorem dMo_passToken_117 : decode cMo_passToken 117 = .ok (.getfield 157, 3) := by decide +kernel
theorem dMo_passToken_120 : decode cMo_passToken 120 = .ok (.iconst 1, 1) := by decide +kernel
theorem dMo_passToken_121 : decode cMo_passToken 121 = .ok (.isub, 1) := by decide +kernel
theorem dMo_passToken_122 : decode cMo_passToken 122 = .ok (.putfield 157, 3) := by decide +kernel
theorem dMo_passToken_125 : decode cMo_passToken 125 = .ok (.iconst 0, 1) := by decide +kernel
theorem dMo_passToken_126 : decode cMo_passToken 126 = .ok (.istore_n 3, 1) := by decide +kernel
theorem dMo_passToken_127 : decode cMo_passToken 127 = .ok (.iload_n 3, 1) := by decide +kernel
theorem dMo_passToken_128 : decode cMo_passToken 128 = .ok (.aload_n 0, 1) := by decide +kernel
theorem dMo_passToken_129 : decode cMo_passToken 129 = .ok (.getfield 157, 3) := by decide +kernel
theorem dMo_passToken_132 : decode cMo_passToken 132 = .ok (.if_icmp .ge 23, 3) := by decide +kernel
theorem dMo_passToken_135 : decode cMo_passToken 135 = .ok (.aload_n 0, 1) := by decide +kernel
theorem dMo_passToken_136 : decode cMo_passToken 136 = .ok (.getfield 53, 3) := by decide +kernel
theorem dMo_passToken_139 : decode cMo_passToken 139 = .ok (.iload_n 3, 1) := by decide +kernel
theorem dMo_passToken_140 : decode cMo_passToken 140 = .ok (.aload_n 0, 1) := by decide +kernel
theorem dMo_passToken_141 : decode cMo_passToken 141 = .ok (.getfield 53, 3) := by decide +kernel
theorem dMo_passToken_144 : decode cMo_passToken 144 = .ok (.iload_n 3, 1) := by decide +kernel
theorem dMo_passToken_145 : decode cMo_passToken 145 = .ok (.iconst 1, 1) := by decide +kernel
theorem dMo_passToken_146 : decode cMo_passToken 146 = .ok (.iadd, 1) := by decide +kernel
theorem dMo_passToken_147 : decode cMo_passToken 147 = .ok (.iaload, 1) := by decide +kernel
theorem dMo_passToken_148 : decode cMo_passToken 148 = .ok (.iastore, 1) := by decide +kernel
theorem dMo_passToken_149 : decode cMo_passToken 149 = .ok (.iinc 3 1, 3) := by decide +kernel
theorem dMo_passToken_152 : decode cMo_passToken 152 = .ok (.goto (-25), 3) := by decide +kernel
theorem dMo_passToken_155 : decode cMo_passToken 155 = .ok (.aload_n 0, 1) := by decide +kernel
theorem dMo_passToken_156 : decode cMo_passToken 156 = .ok (.iconst (-1), 1) := by decide +kernel
theorem dMo_passToken_157 : decode cMo_passToken 157 = .ok (.putfield 134, 3) := by decide +kernel
theorem dMo_passToken_160 : decode cMo_passToken 160 = .ok (.aload_n 0, 1) := by decide +kernel
theorem dMo_passToken_161 : decode cMo_passToken 161 = .ok (.iload_n 1, 1) := by decide +kernel
theorem dMo_passToken_162 : decode cMo_passToken 162 = .ok (.iload_n 2, 1) := by decide +kernel
theorem dMo_passToken_163 : decode cMo_passToken 163 = .ok (.iconst 1, 1) := by decide +kernel
theorem dMo_passToken_164 : decode cMo_passToken 164 = .ok (.iconst 1, 1) := by decide +kernel
theorem dMo_passToken_165 : decode cMo_passToken 165 = .ok (.iconst 0, 1) := by decide +kernel
theorem dMo_passToken_166 : decode cMo_passToken 166 = .ok (.invokevirtual 99, 3) := by decide +kernel
theorem dMo_passToken_169 : decode cMo_passToken 169 = .ok (.return_, 1) := by decide +kernel
theorem dMo_settle_0 : decode cMo_settle 0 = .ok (.aload_n 0, 1) := by decide +kernel
theorem dMo_settle_1 : decode cMo_settle 1 = .ok (.getfield 81, 3) := by decide +kernel
theorem dMo_settle_4 : decode cMo_settle 4 = .ok (.iload_n 1, 1) := by decide +kernel
theorem dMo_settle_5 : decode cMo_settle 5 = .ok (.baload, 1) := by decide +kernel
theorem dMo_settle_6 : decode cMo_settle 6 = .ok (.ifCond .ne 12, 3) := by decide +kernel
theorem dMo_settle_9 : decode cMo_settle 9 = .ok (.aload_n 0, 1) := by decide +kernel
theorem dMo_settle_10 : decode cMo_settle 10 = .ok (.getfield 87, 3) := by decide +kernel
theorem dMo_settle_13 : decode cMo_settle 13 = .ok (.iload_n 1, 1) := by decide +kernel
theorem dMo_settle_14 : decode cMo_settle 14 = .ok (.iaload, 1) := by decide +kernel
theorem dMo_settle_15 : decode cMo_settle 15 = .ok (.ifCond .le 4, 3) := by decide +kernel
theorem dMo_settle_18 : decode cMo_settle 18 = .ok (.return_, 1) := by decide +kernel
theorem dMo_settle_19 : decode cMo_settle 19 = .ok (.aload_n 0, 1) := by decide +kernel
theorem dMo_settle_20 : decode cMo_settle 20 = .ok (.getfield 84, 3) := by decide +kernel
theorem dMo_settle_23 : decode cMo_settle 23 = .ok (.iload_n 1, 1) := by decide +kernel
theorem dMo_settle_24 : decode cMo_settle 24 = .ok (.iaload, 1) := by decide +kernel
theorem dMo_settle_25 : decode cMo_settle 25 = .ok (.ifCond .lt 29, 3) := by decide +kernel
theorem dMo_settle_28 : decode cMo_settle 28 = .ok (.aload_n 0, 1) := by decide +kernel
theorem dMo_settle_29 : decode cMo_settle 29 = .ok (.getfield 84, 3) := by decide +kernel
theorem dMo_settle_32 : decode cMo_settle 32 = .ok (.iload_n 1, 1) := by decide +kernel
theorem dMo_settle_33 : decode cMo_settle 33 = .ok (.iaload, 1) := by decide +kernel
theorem dMo_settle_34 : decode cMo_settle 34 = .ok (.istore_n 2, 1) := by decide +kernel
theorem dMo_settle_35 : decode cMo_settle 35 = .ok (.aload_n 0, 1) := by decide +kernel
theorem dMo_settle_36 : decode cMo_settle 36 = .ok (.getfield 84, 3) := by decide +kernel
theorem dMo_settle_39 : decode cMo_settle 39 = .ok (.iload_n 1, 1) := by decide +kernel
theorem dMo_settle_40 : decode cMo_settle 40 = .ok (.iconst (-1), 1) := by decide +kernel
theorem dMo_settle_41 : decode cMo_settle 41 = .ok (.iastore, 1) := by decide +kernel
theorem dMo_settle_42 : decode cMo_settle 42 = .ok (.aload_n 0, 1) := by decide +kernel
theorem dMo_settle_43 : decode cMo_settle 43 = .ok (.iload_n 1, 1) := by decide +kernel
theorem dMo_settle_44 : decode cMo_settle 44 = .ok (.iload_n 2, 1) := by decide +kernel
theorem dMo_settle_45 : decode cMo_settle 45 = .ok (.iconst 4, 1) := by decide +kernel
theorem dMo_settle_46 : decode cMo_settle 46 = .ok (.iconst 1, 1) := by decide +kernel
theorem dMo_settle_47 : decode cMo_settle 47 = .ok (.iconst 0, 1) := by decide +kernel
theorem dMo_settle_48 : decode cMo_settle 48 = .ok (.invokevirtual 99, 3) := by decide +kernel
theorem dMo_settle_51 : decode cMo_settle 51 = .ok (.goto 26, 3) := by decide +kernel
theorem dMo_settle_54 : decode cMo_settle 54 = .ok (.aload_n 0, 1) := by decide +kernel
theorem dMo_settle_55 : decode cMo_settle 55 = .ok (.getfield 78, 3) := by decide +kernel
theorem dMo_settle_58 : decode cMo_settle 58 = .ok (.iload_n 1, 1) := by decide +kernel
theorem dMo_settle_59 : decode cMo_settle 59 = .ok (.if_icmp .ne 18, 3) := by decide +kernel
theorem dMo_settle_62 : decode cMo_settle 62 = .ok (.aload_n 0, 1) := by decide +kernel
theorem dMo_settle_63 : decode cMo_settle 63 = .ok (.iconst (-1), 1) := by decide +kernel
theorem dMo_settle_64 : decode cMo_settle 64 = .ok (.putfield 78, 3) := by decide +kernel
theorem dMo_settle_67 : decode cMo_settle 67 = .ok (.aload_n 0, 1) := by decide +kernel
theorem dMo_settle_68 : decode cMo_settle 68 = .ok (.dup, 1) := by decide +kernel
theorem dMo_settle_69 : decode cMo_settle 69 = .ok (.getfield 164, 3) := by decide +kernel
theorem dMo_settle_72 : decode cMo_settle 72 = .ok (.iconst 1, 1) := by decide +kernel
theorem dMo_settle_73 : decode cMo_settle 73 = .ok (.iadd, 1) := by decide +kernel
theorem dMo_settle_74 : decode cMo_settle 74 = .ok (.putfield 164, 3) := by decide +kernel
theorem dMo_settle_77 : decode cMo_settle 77 = .ok (.return_, 1) := by decide +kernel
theorem dMo_stampArrives_0 : decode cMo_stampArrives 0 = .ok (.iload_n 3, 1) := by decide +kernel
theorem dMo_stampArrives_1 : decode cMo_stampArrives 1 = .ok (.iconst 1, 1) := by decide +kernel
theorem dMo_stampArrives_2 : decode cMo_stampArrives 2 = .ok (.if_icmp .ne 40, 3) := by decide +kernel
theorem dMo_stampArrives_5 : decode cMo_stampArrives 5 = .ok (.aload_n 0, 1) := by decide +kernel
theorem dMo_stampArrives_6 : decode cMo_stampArrives 6 = .ok (.getfield 41, 3) := by decide +kernel
theorem dMo_stampArrives_9 : decode cMo_stampArrives 9 = .ok (.iload_n 2, 1) := by decide +kernel
theorem dMo_stampArrives_10 : decode cMo_stampArrives 10 = .ok (.dup2, 1) := by decide +kernel
theorem dMo_stampArrives_11 : decode cMo_stampArrives 11 = .ok (.iaload, 1) := by decide +kernel
theorem dMo_stampArrives_12 : decode cMo_stampArrives 12 = .ok (.iconst 1, 1) := by decide +kernel
theorem dMo_stampArrives_13 : decode cMo_stampArrives 13 = .ok (.iadd, 1) := by decide +kernel
theorem dMo_stampArrives_14 : decode cMo_stampArrives 14 = .ok (.iastore, 1) := by decide +kernel
theorem dMo_stampArrives_15 : decode cMo_stampArrives 15 = .ok (.aload_n 0, 1) := by decide +kernel
theorem dMo_stampArrives_16 : decode cMo_stampArrives 16 = .ok (.getfield 41, 3) := by decide +kernel
theorem dMo_stampArrives_19 : decode cMo_stampArrives 19 = .ok (.iload_n 2, 1) := by decide +kernel
theorem dMo_stampArrives_20 : decode cMo_stampArrives 20 = .ok (.iaload, 1) := by decide +kernel
theorem dMo_stampArrives_21 : decode cMo_stampArrives 21 = .ok (.iconst 3, 1) := by decide +kernel
theorem dMo_stampArrives_22 : decode cMo_stampArrives 22 = .ok (.if_icmp .ne 19, 3) := by decide +kernel
theorem dMo_stampArrives_25 : decode cMo_stampArrives 25 = .ok (.aload_n 0, 1) := by decide +kernel
theorem dMo_stampArrives_26 : decode cMo_stampArrives 26 = .ok (.getfield 32, 3) := by decide +kernel
theorem dMo_stampArrives_29 : decode cMo_stampArrives 29 = .ok (.iload_n 2, 1) := by decide +kernel
theorem dMo_stampArrives_30 : decode cMo_stampArrives 30 = .ok (.iaload, 1) := by decide +kernel
theorem dMo_stampArrives_31 : decode cMo_stampArrives 31 = .ok (.iconst 1, 1) := by decide +kernel
theorem dMo_stampArrives_32 : decode cMo_stampArrives 32 = .ok (.if_icmp .ne 9, 3) := by decide +kernel
theorem dMo_stampArrives_35 : decode cMo_stampArrives 35 = .ok (.aload_n 0, 1) := by decide +kernel
theorem dMo_stampArrives_36 : decode cMo_stampArrives 36 = .ok (.iconst 0, 1) := by decide +kernel
theorem dMo_stampArrives_37 : decode cMo_stampArrives 37 = .ok (.iload_n 2, 1) := by decide +kernel
theorem dMo_stampArrives_38 : decode cMo_stampArrives 38 = .ok (.invokevirtual 137, 3) := by decide +kernel
theorem dMo_stampArrives_41 : decode cMo_stampArrives 41 = .ok (.return_, 1) := by decide +kernel
theorem dMo_stampArrives_42 : decode cMo_stampArrives 42 = .ok (.aload_n 0, 1) := by decide +kernel
theorem dMo_stampArrives_43 : decode cMo_stampArrives 43 = .ok (.getfield 35, 3) := by decide +kernel
theorem dMo_stampArrives_46 : decode cMo_stampArrives 46 = .ok (.iload_n 2, 1) := by decide +kernel
theorem dMo_stampArrives_47 : decode cMo_stampArrives 47 = .ok (.iload 4, 2) := by decide +kernel
theorem dMo_stampArrives_49 : decode cMo_stampArrives 49 = .ok (.aload_n 0, 1) := by decide +kernel
theorem dMo_stampArrives_50 : decode cMo_stampArrives 50 = .ok (.getfield 35, 3) := by decide +kernel
theorem dMo_stampArrives_53 : decode cMo_stampArrives 53 = .ok (.iload_n 2, 1) := by decide +kernel
theorem dMo_stampArrives_54 : decode cMo_stampArrives 54 = .ok (.iaload, 1) := by decide +kernel
theorem dMo_stampArrives_55 : decode cMo_stampArrives 55 = .ok (.if_icmp .le 8, 3) := by decide +kernel
theorem dMo_stampArrives_58 : decode cMo_stampArrives 58 = .ok (.iload 4, 2) := by decide +kernel
theorem dMo_stampArrives_60 : decode cMo_stampArrives 60 = .ok (.goto 9, 3) := by decide +kernel
theorem dMo_stampArrives_63 : decode cMo_stampArrives 63 = .ok (.aload_n 0, 1) := by decide +kernel
theorem dMo_stampArrives_64 : decode cMo_stampArrives 64 = .ok (.getfield 35, 3) := by decide +kernel
theorem dMo_stampArrives_67 : decode cMo_stampArrives 67 = .ok (.iload_n 2, 1) := by decide +kernel
theorem dMo_stampArrives_68 : decode cMo_stampArrives 68 = .ok (.iaload, 1) := by decide +kernel
theorem dMo_stampArrives_69 : decode cMo_stampArrives 69 = .ok (.iastore, 1) := by decide +kernel
theorem dMo_stampArrives_70 : decode cMo_stampArrives 70 = .ok (.aload_n 0, 1) := by decide +kernel
theorem dMo_stampArrives_71 : decode cMo_stampArrives 71 = .ok (.getfield 38, 3) := by decide +kernel
theorem dMo_stampArrives_74 : decode cMo_stampArrives 74 = .ok (.iload_n 2, 1) := by decide +kernel
theorem dMo_stampArrives_75 : decode cMo_stampArrives 75 = .ok (.iaload, 1) := by decide +kernel
theorem dMo_stampArrives_76 : decode cMo_stampArrives 76 = .ok (.iload 4, 2) := by decide +kernel
theorem dMo_stampArrives_78 : decode cMo_stampArrives 78 = .ok (.if_icmp .lt 19, 3) := by decide +kernel
theorem dMo_stampArrives_81 : decode cMo_stampArrives 81 = .ok (.aload_n 0, 1) := by decide +kernel
theorem dMo_stampArrives_82 : decode cMo_stampArrives 82 = .ok (.getfield 38, 3) := by decide +kernel
theorem dMo_stampArrives_85 : decode cMo_stampArrives 85 = .ok (.iload_n 2, 1) := by decide +kernel
theorem dMo_stampArrives_86 : decode cMo_stampArrives 86 = .ok (.iaload, 1) := by decide +kernel
theorem dMo_stampArrives_87 : decode cMo_stampArrives 87 = .ok (.iload 4, 2) := by decide +kernel
theorem dMo_stampArrives_89 : decode cMo_stampArrives 89 = .ok (.if_icmp .ne 12, 3) := by decide +kernel
theorem dMo_stampArrives_92 : decode cMo_stampArrives 92 = .ok (.iload_n 2, 1) := by decide +kernel
theorem dMo_stampArrives_93 : decode cMo_stampArrives 93 = .ok (.iload_n 1, 1) := by decide +kernel
theorem dMo_stampArrives_94 : decode cMo_stampArrives 94 = .ok (.if_icmp .ge 7, 3) := by decide +kernel
theorem dMo_stampArrives_97 : decode cMo_stampArrives 97 = .ok (.iconst 1, 1) := by decide +kernel
theorem dMo_stampArrives_98 : decode cMo_stampArrives 98 = .ok (.goto 4, 3) := by decide +kernel
theorem dMo_stampArrives_101 : decode cMo_stampArrives 101 = .ok (.iconst 0, 1) := by decide +kernel
theorem dMo_stampArrives_102 : decode cMo_stampArrives 102 = .ok (.istore 5, 2) := by decide +kernel
theorem dMo_stampArrives_104 : decode cMo_stampArrives 104 = .ok (.aload_n 0, 1) := by decide +kernel
theorem dMo_stampArrives_105 : decode cMo_stampArrives 105 = .ok (.getfield 32, 3) := by decide +kernel
theorem dMo_stampArrives_108 : decode cMo_stampArrives 108 = .ok (.iload_n 2, 1) := by decide +kernel
theorem dMo_stampArrives_109 : decode cMo_stampArrives 109 = .ok (.iaload, 1) := by decide +kernel
theorem dMo_stampArrives_110 : decode cMo_stampArrives 110 = .ok (.iconst 2, 1) := by decide +kernel
theorem dMo_stampArrives_111 : decode cMo_stampArrives 111 = .ok (.if_icmp .eq 18, 3) := by decide +kernel
theorem dMo_stampArrives_114 : decode cMo_stampArrives 114 = .ok (.aload_n 0, 1) := by decide +kernel
theorem dMo_stampArrives_115 : decode cMo_stampArrives 115 = .ok (.getfield 32, 3) := by decide +kernel
theorem dMo_stampArrives_118 : decode cMo_stampArrives 118 = .ok (.iload_n 2, 1) := by decide +kernel
theorem dMo_stampArrives_119 : decode cMo_stampArrives 119 = .ok (.iaload, 1) := by decide +kernel
theorem dMo_stampArrives_120 : decode cMo_stampArrives 120 = .ok (.iconst 1, 1) := by decide +kernel
theorem dMo_stampArrives_121 : decode cMo_stampArrives 121 = .ok (.if_icmp .ne 23, 3) := by decide +kernel
theorem dMo_stampArrives_124 : decode cMo_stampArrives 124 = .ok (.iload 5, 2) := by decide +kernel
theorem dMo_stampArrives_126 : decode cMo_stampArrives 126 = .ok (.ifCond .eq 18, 3) := by decide +kernel
theorem dMo_stampArrives_129 : decode cMo_stampArrives 129 = .ok (.aload_n 0, 1) := by decide +kernel
theorem dMo_stampArrives_130 : decode cMo_stampArrives 130 = .ok (.getfield 44, 3) := by decide +kernel
theorem dMo_stampArrives_133 : decode cMo_stampArrives 133 = .ok (.iload_n 2, 1) := by decide +kernel
theorem dMo_stampArrives_134 : decode cMo_stampArrives 134 = .ok (.dup2, 1) := by decide +kernel
theorem dMo_stampArrives_135 : decode cMo_stampArrives 135 = .ok (.iaload, 1) := by decide +kernel
theorem dMo_stampArrives_136 : decode cMo_stampArrives 136 = .ok (.iconst 1, 1) := by decide +kernel
theorem dMo_stampArrives_137 : decode cMo_stampArrives 137 = .ok (.iload_n 1, 1) := by decide +kernel
theorem dMo_stampArrives_138 : decode cMo_stampArrives 138 = .ok (.ishl, 1) := by decide +kernel
theorem dMo_stampArrives_139 : decode cMo_stampArrives 139 = .ok (.ior, 1) := by decide +kernel
theorem dMo_stampArrives_140 : decode cMo_stampArrives 140 = .ok (.iastore, 1) := by decide +kernel
theorem dMo_stampArrives_141 : decode cMo_stampArrives 141 = .ok (.goto 12, 3) := by decide +kernel
theorem dMo_stampArrives_144 : decode cMo_stampArrives 144 = .ok (.aload_n 0, 1) := by decide +kernel
theorem dMo_stampArrives_145 : decode cMo_stampArrives 145 = .ok (.iload_n 2, 1) := by decide +kernel
theorem dMo_stampArrives_146 : decode cMo_stampArrives 146 = .ok (.iload_n 1, 1) := by decide +kernel
theorem dMo_stampArrives_147 : decode cMo_stampArrives 147 = .ok (.iconst 0, 1) := by decide +kernel
theorem dMo_stampArrives_148 : decode cMo_stampArrives 148 = .ok (.iconst 1, 1) := by decide +kernel
theorem dMo_stampArrives_149 : decode cMo_stampArrives 149 = .ok (.iconst 0, 1) := by decide +kernel
theorem dMo_stampArrives_150 : decode cMo_stampArrives 150 = .ok (.invokevirtual 99, 3) := by decide +kernel
theorem dMo_stampArrives_153 : decode cMo_stampArrives 153 = .ok (.return_, 1) := by decide +kernel
theorem dMo_tokenArrives_0 : decode cMo_tokenArrives 0 = .ok (.iload_n 3, 1) := by decide +kernel
theorem dMo_tokenArrives_1 : decode cMo_tokenArrives 1 = .ok (.iconst 1, 1) := by decide +kernel
theorem dMo_tokenArrives_2 : decode cMo_tokenArrives 2 = .ok (.if_icmp .ne 15, 3) := by decide +kernel
theorem dMo_tokenArrives_5 : decode cMo_tokenArrives 5 = .ok (.aload_n 0, 1) := by decide +kernel
theorem dMo_tokenArrives_6 : decode cMo_tokenArrives 6 = .ok (.iload_n 2, 1) := by decide +kernel
theorem dMo_tokenArrives_7 : decode cMo_tokenArrives 7 = .ok (.putfield 134, 3) := by decide +kernel
theorem dMo_tokenArrives_10 : decode cMo_tokenArrives 10 = .ok (.aload_n 0, 1) := by decide +kernel
theorem dMo_tokenArrives_11 : decode cMo_tokenArrives 11 = .ok (.iconst 1, 1) := by decide +kernel
theorem dMo_tokenArrives_12 : decode cMo_tokenArrives 12 = .ok (.iload_n 2, 1) := by decide +kernel
theorem dMo_tokenArrives_13 : decode cMo_tokenArrives 13 = .ok (.invokevirtual 137, 3) := by decide +kernel
theorem dMo_tokenArrives_16 : decode cMo_tokenArrives 16 = .ok (.return_, 1) := by decide +kernel
theorem dMo_tokenArrives_17 : decode cMo_tokenArrives 17 = .ok (.aload_n 0, 1) := by decide +kernel
theorem dMo_tokenArrives_18 : decode cMo_tokenArrives 18 = .ok (.getfield 47, 3) := by decide +kernel
theorem dMo_tokenArrives_21 : decode cMo_tokenArrives 21 = .ok (.iconst 4, 1) := by decide +kernel
theorem dMo_tokenArrives_22 : decode cMo_tokenArrives 22 = .ok (.iload_n 2, 1) := by decide +kernel
theorem dMo_tokenArrives_23 : decode cMo_tokenArrives 23 = .ok (.imul, 1) := by decide +kernel
theorem dMo_tokenArrives_24 : decode cMo_tokenArrives 24 = .ok (.iload_n 1, 1) := by decide +kernel
theorem dMo_tokenArrives_25 : decode cMo_tokenArrives 25 = .ok (.iadd, 1) := by decide +kernel
theorem dMo_tokenArrives_26 : decode cMo_tokenArrives 26 = .ok (.iload 4, 2) := by decide +kernel
theorem dMo_tokenArrives_28 : decode cMo_tokenArrives 28 = .ok (.aload_n 0, 1) := by decide +kernel
theorem dMo_tokenArrives_29 : decode cMo_tokenArrives 29 = .ok (.getfield 47, 3) := by decide +kernel
theorem dMo_tokenArrives_32 : decode cMo_tokenArrives 32 = .ok (.iconst 4, 1) := by decide +kernel
theorem dMo_tokenArrives_33 : decode cMo_tokenArrives 33 = .ok (.iload_n 2, 1) := by decide +kernel
theorem dMo_tokenArrives_34 : decode cMo_tokenArrives 34 = .ok (.imul, 1) := by decide +kernel
theorem dMo_tokenArrives_35 : decode cMo_tokenArrives 35 = .ok (.iload_n 1, 1) := by decide +kernel
theorem dMo_tokenArrives_36 : decode cMo_tokenArrives 36 = .ok (.iadd, 1) := by decide +kernel
theorem dMo_tokenArrives_37 : decode cMo_tokenArrives 37 = .ok (.iaload, 1) := by decide +kernel
theorem dMo_tokenArrives_38 : decode cMo_tokenArrives 38 = .ok (.if_icmp .le 8, 3) := by decide +kernel
theorem dMo_tokenArrives_41 : decode cMo_tokenArrives 41 = .ok (.iload 4, 2) := by decide +kernel
theorem dMo_tokenArrives_43 : decode cMo_tokenArrives 43 = .ok (.goto 13, 3) := by decide +kernel
theorem dMo_tokenArrives_46 : decode cMo_tokenArrives 46 = .ok (.aload_n 0, 1) := by decide +kernel
theorem dMo_tokenArrives_47 : decode cMo_tokenArrives 47 = .ok (.getfield 47, 3) := by decide +kernel
theorem dMo_tokenArrives_50 : decode cMo_tokenArrives 50 = .ok (.iconst 4, 1) := by decide +kernel
theorem dMo_tokenArrives_51 : decode cMo_tokenArrives 51 = .ok (.iload_n 2, 1) := by decide +kernel
theorem dMo_tokenArrives_52 : decode cMo_tokenArrives 52 = .ok (.imul, 1) := by decide +kernel
theorem dMo_tokenArrives_53 : decode cMo_tokenArrives 53 = .ok (.iload_n 1, 1) := by decide +kernel
theorem dMo_tokenArrives_54 : decode cMo_tokenArrives 54 = .ok (.iadd, 1) := by decide +kernel
theorem dMo_tokenArrives_55 : decode cMo_tokenArrives 55 = .ok (.iaload, 1) := by decide +kernel
theorem dMo_tokenArrives_56 : decode cMo_tokenArrives 56 = .ok (.iastore, 1) := by decide +kernel
theorem dMo_tokenArrives_57 : decode cMo_tokenArrives 57 = .ok (.aload_n 0, 1) := by decide +kernel
theorem dMo_tokenArrives_58 : decode cMo_tokenArrives 58 = .ok (.getfield 134, 3) := by decide +kernel
theorem dMo_tokenArrives_61 : decode cMo_tokenArrives 61 = .ok (.iload_n 2, 1) := by decide +kernel
theorem dMo_tokenArrives_62 : decode cMo_tokenArrives 62 = .ok (.if_icmp .ne 37, 3) := by decide +kernel
theorem dMo_tokenArrives_65 : decode cMo_tokenArrives 65 = .ok (.aload_n 0, 1) := by decide +kernel
theorem dMo_tokenArrives_66 : decode cMo_tokenArrives 66 = .ok (.getfield 32, 3) := by decide +kernel
theorem dMo_tokenArrives_69 : decode cMo_tokenArrives 69 = .ok (.iconst 4, 1) := by decide +kernel
theorem dMo_tokenArrives_70 : decode cMo_tokenArrives 70 = .ok (.iload_n 2, 1) := by decide +kernel
theorem dMo_tokenArrives_71 : decode cMo_tokenArrives 71 = .ok (.iadd, 1) := by decide +kernel
theorem dMo_tokenArrives_72 : decode cMo_tokenArrives 72 = .ok (.iaload, 1) := by decide +kernel
theorem dMo_tokenArrives_73 : decode cMo_tokenArrives 73 = .ok (.ifCond .ne 26, 3) := by decide +kernel
theorem dMo_tokenArrives_76 : decode cMo_tokenArrives 76 = .ok (.aload_n 0, 1) := by decide +kernel
theorem dMo_tokenArrives_77 : decode cMo_tokenArrives 77 = .ok (.iload_n 2, 1) := by decide +kernel
theorem dMo_tokenArrives_78 : decode cMo_tokenArrives 78 = .ok (.iload_n 1, 1) := by decide +kernel
theorem dMo_tokenArrives_79 : decode cMo_tokenArrives 79 = .ok (.invokevirtual 154, 3) := by decide +kernel
theorem dMo_tokenArrives_82 : decode cMo_tokenArrives 82 = .ok (.ifCond .eq 17, 3) := by decide +kernel
theorem dMo_tokenArrives_85 : decode cMo_tokenArrives 85 = .ok (.aload_n 0, 1) := by decide +kernel
theorem dMo_tokenArrives_86 : decode cMo_tokenArrives 86 = .ok (.iconst (-1), 1) := by decide +kernel
theorem dMo_tokenArrives_87 : decode cMo_tokenArrives 87 = .ok (.putfield 134, 3) := by decide +kernel
theorem dMo_tokenArrives_90 : decode cMo_tokenArrives 90 = .ok (.aload_n 0, 1) := by decide +kernel
theorem dMo_tokenArrives_91 : decode cMo_tokenArrives 91 = .ok (.iload_n 2, 1) := by decide +kernel
theorem dMo_tokenArrives_92 : decode cMo_tokenArrives 92 = .ok (.iload_n 1, 1) := by decide +kernel
theorem dMo_tokenArrives_93 : decode cMo_tokenArrives 93 = .ok (.iconst 1, 1) := by decide +kernel
theorem dMo_tokenArrives_94 : decode cMo_tokenArrives 94 = .ok (.iconst 1, 1) := by decide +kernel
theorem dMo_tokenArrives_95 : decode cMo_tokenArrives 95 = .ok (.iconst 0, 1) := by decide +kernel
theorem dMo_tokenArrives_96 : decode cMo_tokenArrives 96 = .ok (.invokevirtual 99, 3) := by decide +kernel
theorem dMo_tokenArrives_99 : decode cMo_tokenArrives 99 = .ok (.return_, 1) := by decide +kernel
theorem dMo_treeArrives_0 : decode cMo_treeArrives 0 = .ok (.iload_n 3, 1) := by decide +kernel
theorem dMo_treeArrives_1 : decode cMo_treeArrives 1 = .ok (.ifCond .ne 12, 3) := by decide +kernel
theorem dMo_treeArrives_4 : decode cMo_treeArrives 4 = .ok (.aload_n 0, 1) := by decide +kernel
theorem dMo_treeArrives_5 : decode cMo_treeArrives 5 = .ok (.iload_n 2, 1) := by decide +kernel
theorem dMo_treeArrives_6 : decode cMo_treeArrives 6 = .ok (.iload_n 1, 1) := by decide +kernel
theorem dMo_treeArrives_7 : decode cMo_treeArrives 7 = .ok (.invokevirtual 144, 3) := by decide +kernel
theorem dMo_treeArrives_10 : decode cMo_treeArrives 10 = .ok (.goto 10, 3) := by decide +kernel
theorem dMo_treeArrives_13 : decode cMo_treeArrives 13 = .ok (.aload_n 0, 1) := by decide +kernel
theorem dMo_treeArrives_14 : decode cMo_treeArrives 14 = .ok (.getfield 56, 3) := by decide +kernel
theorem dMo_treeArrives_17 : decode cMo_treeArrives 17 = .ok (.iload_n 2, 1) := by decide +kernel
theorem dMo_treeArrives_18 : decode cMo_treeArrives 18 = .ok (.iload_n 2, 1) := by decide +kernel
theorem dMo_treeArrives_19 : decode cMo_treeArrives 19 = .ok (.iastore, 1) := by decide +kernel
theorem dMo_treeArrives_20 : decode cMo_treeArrives 20 = .ok (.aload_n 0, 1) := by decide +kernel
theorem dMo_treeArrives_21 : decode cMo_treeArrives 21 = .ok (.iload_n 2, 1) := by decide +kernel
theorem dMo_treeArrives_22 : decode cMo_treeArrives 22 = .ok (.invokevirtual 147, 3) := by decide +kernel
theorem dMo_treeArrives_25 : decode cMo_treeArrives 25 = .ok (.return_, 1) := by decide +kernel
theorem dMo_ringArrives_0 : decode cMo_ringArrives 0 = .ok (.iload_n 1, 1) := by decide +kernel
theorem dMo_ringArrives_1 : decode cMo_ringArrives 1 = .ok (.iconst 1, 1) := by decide +kernel
theorem dMo_ringArrives_2 : decode cMo_ringArrives 2 = .ok (.iadd, 1) := by decide +kernel
theorem dMo_ringArrives_3 : decode cMo_ringArrives 3 = .ok (.iconst 4, 1) := by decide +kernel
theorem dMo_ringArrives_4 : decode cMo_ringArrives 4 = .ok (.irem, 1) := by decide +kernel
theorem dMo_ringArrives_5 : decode cMo_ringArrives 5 = .ok (.istore 4, 2) := by decide +kernel
theorem dMo_ringArrives_7 : decode cMo_ringArrives 7 = .ok (.iload_n 2, 1) := by decide +kernel
theorem dMo_ringArrives_8 : decode cMo_ringArrives 8 = .ok (.iconst 1, 1) := by decide +kernel
theorem dMo_ringArrives_9 : decode cMo_ringArrives 9 = .ok (.if_icmp .ne 38, 3) := by decide +kernel
theorem dMo_ringArrives_12 : decode cMo_ringArrives 12 = .ok (.iload_n 3, 1) := by decide +kernel
theorem dMo_ringArrives_13 : decode cMo_ringArrives 13 = .ok (.aload_n 0, 1) := by decide +kernel
theorem dMo_ringArrives_14 : decode cMo_ringArrives 14 = .ok (.getfield 69, 3) := by decide +kernel
theorem dMo_ringArrives_17 : decode cMo_ringArrives 17 = .ok (.iload_n 1, 1) := by decide +kernel
theorem dMo_ringArrives_18 : decode cMo_ringArrives 18 = .ok (.iaload, 1) := by decide +kernel
theorem dMo_ringArrives_19 : decode cMo_ringArrives 19 = .ok (.if_icmp .eq 27, 3) := by decide +kernel
theorem dMo_ringArrives_22 : decode cMo_ringArrives 22 = .ok (.aload_n 0, 1) := by decide +kernel
theorem dMo_ringArrives_23 : decode cMo_ringArrives 23 = .ok (.getfield 72, 3) := by decide +kernel
theorem dMo_ringArrives_26 : decode cMo_ringArrives 26 = .ok (.iload_n 1, 1) := by decide +kernel
theorem dMo_ringArrives_27 : decode cMo_ringArrives 27 = .ok (.iload_n 3, 1) := by decide +kernel
theorem dMo_ringArrives_28 : decode cMo_ringArrives 28 = .ok (.iastore, 1) := by decide +kernel
theorem dMo_ringArrives_29 : decode cMo_ringArrives 29 = .ok (.aload_n 0, 1) := by decide +kernel
theorem dMo_ringArrives_30 : decode cMo_ringArrives 30 = .ok (.getfield 75, 3) := by decide +kernel
theorem dMo_ringArrives_33 : decode cMo_ringArrives 33 = .ok (.iload_n 1, 1) := by decide +kernel
theorem dMo_ringArrives_34 : decode cMo_ringArrives 34 = .ok (.iconst 0, 1) := by decide +kernel
theorem dMo_ringArrives_35 : decode cMo_ringArrives 35 = .ok (.bastore, 1) := by decide +kernel
theorem dMo_ringArrives_36 : decode cMo_ringArrives 36 = .ok (.aload_n 0, 1) := by decide +kernel
theorem dMo_ringArrives_37 : decode cMo_ringArrives 37 = .ok (.iload_n 1, 1) := by decide +kernel
theorem dMo_ringArrives_38 : decode cMo_ringArrives 38 = .ok (.iload 4, 2) := by decide +kernel
theorem dMo_ringArrives_40 : decode cMo_ringArrives 40 = .ok (.iconst 3, 1) := by decide +kernel
theorem dMo_ringArrives_41 : decode cMo_ringArrives 41 = .ok (.iconst 1, 1) := by decide +kernel
theorem dMo_ringArrives_42 : decode cMo_ringArrives 42 = .ok (.iload_n 3, 1) := by decide +kernel
theorem dMo_ringArrives_43 : decode cMo_ringArrives 43 = .ok (.invokevirtual 99, 3) := by decide +kernel
theorem dMo_ringArrives_46 : decode cMo_ringArrives 46 = .ok (.return_, 1) := by decide +kernel
theorem dMo_ringArrives_47 : decode cMo_ringArrives 47 = .ok (.iload_n 3, 1) := by decide +kernel
theorem dMo_ringArrives_48 : decode cMo_ringArrives 48 = .ok (.aload_n 0, 1) := by decide +kernel
theorem dMo_ringArrives_49 : decode cMo_ringArrives 49 = .ok (.getfield 69, 3) := by decide +kernel
theorem dMo_ringArrives_52 : decode cMo_ringArrives 52 = .ok (.iload_n 1, 1) := by decide +kernel
theorem dMo_ringArrives_53 : decode cMo_ringArrives 53 = .ok (.iaload, 1) := by decide +kernel
theorem dMo_ringArrives_54 : decode cMo_ringArrives 54 = .ok (.if_icmp .ne 30, 3) := by decide +kernel
theorem dMo_ringArrives_57 : decode cMo_ringArrives 57 = .ok (.aload_n 0, 1) := by decide +kernel
theorem dMo_ringArrives_58 : decode cMo_ringArrives 58 = .ok (.getfield 75, 3) := by decide +kernel
theorem dMo_ringArrives_61 : decode cMo_ringArrives 61 = .ok (.iload_n 1, 1) := by decide +kernel
theorem dMo_ringArrives_62 : decode cMo_ringArrives 62 = .ok (.iconst 0, 1) := by decide +kernel
theorem dMo_ringArrives_63 : decode cMo_ringArrives 63 = .ok (.bastore, 1) := by decide +kernel
theorem dMo_ringArrives_64 : decode cMo_ringArrives 64 = .ok (.aload_n 0, 1) := by decide +kernel
theorem dMo_ringArrives_65 : decode cMo_ringArrives 65 = .ok (.getfield 72, 3) := by decide +kernel
theorem dMo_ringArrives_68 : decode cMo_ringArrives 68 = .ok (.iload_n 1, 1) := by decide +kernel
theorem dMo_ringArrives_69 : decode cMo_ringArrives 69 = .ok (.iload_n 3, 1) := by decide +kernel
theorem dMo_ringArrives_70 : decode cMo_ringArrives 70 = .ok (.iastore, 1) := by decide +kernel
theorem dMo_ringArrives_71 : decode cMo_ringArrives 71 = .ok (.aload_n 0, 1) := by decide +kernel
theorem dMo_ringArrives_72 : decode cMo_ringArrives 72 = .ok (.iload_n 1, 1) := by decide +kernel
theorem dMo_ringArrives_73 : decode cMo_ringArrives 73 = .ok (.iload 4, 2) := by decide +kernel
theorem dMo_ringArrives_75 : decode cMo_ringArrives 75 = .ok (.iconst 3, 1) := by decide +kernel
theorem dMo_ringArrives_76 : decode cMo_ringArrives 76 = .ok (.iconst 1, 1) := by decide +kernel
theorem dMo_ringArrives_77 : decode cMo_ringArrives 77 = .ok (.iload_n 3, 1) := by decide +kernel
theorem dMo_ringArrives_78 : decode cMo_ringArrives 78 = .ok (.invokevirtual 99, 3) := by decide +kernel
theorem dMo_ringArrives_81 : decode cMo_ringArrives 81 = .ok (.goto 58, 3) := by decide +kernel
theorem dMo_ringArrives_84 : decode cMo_ringArrives 84 = .ok (.iload_n 3, 1) := by decide +kernel
theorem dMo_ringArrives_85 : decode cMo_ringArrives 85 = .ok (.aload_n 0, 1) := by decide +kernel
theorem dMo_ringArrives_86 : decode cMo_ringArrives 86 = .ok (.getfield 69, 3) := by decide +kernel
theorem dMo_ringArrives_89 : decode cMo_ringArrives 89 = .ok (.iload_n 1, 1) := by decide +kernel
theorem dMo_ringArrives_90 : decode cMo_ringArrives 90 = .ok (.iaload, 1) := by decide +kernel
theorem dMo_ringArrives_91 : decode cMo_ringArrives 91 = .ok (.if_icmp .gt 12, 3) := by decide +kernel
theorem dMo_ringArrives_94 : decode cMo_ringArrives 94 = .ok (.aload_n 0, 1) := by decide +kernel
theorem dMo_ringArrives_95 : decode cMo_ringArrives 95 = .ok (.getfield 75, 3) := by decide +kernel
theorem dMo_ringArrives_98 : decode cMo_ringArrives 98 = .ok (.iload_n 1, 1) := by decide +kernel
theorem dMo_ringArrives_99 : decode cMo_ringArrives 99 = .ok (.baload, 1) := by decide +kernel
theorem dMo_ringArrives_100 : decode cMo_ringArrives 100 = .ok (.ifCond .ne 39, 3) := by decide +kernel
theorem dMo_ringArrives_103 : decode cMo_ringArrives 103 = .ok (.aload_n 0, 1) := by decide +kernel
theorem dMo_ringArrives_104 : decode cMo_ringArrives 104 = .ok (.getfield 75, 3) := by decide +kernel
theorem dMo_ringArrives_107 : decode cMo_ringArrives 107 = .ok (.iload_n 1, 1) := by decide +kernel
theorem dMo_ringArrives_108 : decode cMo_ringArrives 108 = .ok (.iconst 1, 1) := by decide +kernel
theorem dMo_ringArrives_109 : decode cMo_ringArrives 109 = .ok (.bastore, 1) := by decide +kernel
theorem dMo_ringArrives_110 : decode cMo_ringArrives 110 = .ok (.aload_n 0, 1) := by decide +kernel
theorem dMo_ringArrives_111 : decode cMo_ringArrives 111 = .ok (.iload_n 1, 1) := by decide +kernel
theorem dMo_ringArrives_112 : decode cMo_ringArrives 112 = .ok (.iload 4, 2) := by decide +kernel
theorem dMo_ringArrives_114 : decode cMo_ringArrives 114 = .ok (.iconst 3, 1) := by decide +kernel
theorem dMo_ringArrives_115 : decode cMo_ringArrives 115 = .ok (.iconst 0, 1) := by decide +kernel
theorem dMo_ringArrives_116 : decode cMo_ringArrives 116 = .ok (.iload_n 3, 1) := by decide +kernel
theorem dMo_ringArrives_117 : decode cMo_ringArrives 117 = .ok (.aload_n 0, 1) := by decide +kernel
theorem dMo_ringArrives_118 : decode cMo_ringArrives 118 = .ok (.getfield 69, 3) := by decide +kernel
theorem dMo_ringArrives_121 : decode cMo_ringArrives 121 = .ok (.iload_n 1, 1) := by decide +kernel
theorem dMo_ringArrives_122 : decode cMo_ringArrives 122 = .ok (.iaload, 1) := by decide +kernel
theorem dMo_ringArrives_123 : decode cMo_ringArrives 123 = .ok (.if_icmp .le 7, 3) := by decide +kernel
theorem dMo_ringArrives_126 : decode cMo_ringArrives 126 = .ok (.iload_n 3, 1) := by decide +kernel
theorem dMo_ringArrives_127 : decode cMo_ringArrives 127 = .ok (.goto 9, 3) := by decide +kernel
theorem dMo_ringArrives_130 : decode cMo_ringArrives 130 = .ok (.aload_n 0, 1) := by decide +kernel
theorem dMo_ringArrives_131 : decode cMo_ringArrives 131 = .ok (.getfield 69, 3) := by decide +kernel
theorem dMo_ringArrives_134 : decode cMo_ringArrives 134 = .ok (.iload_n 1, 1) := by decide +kernel
theorem dMo_ringArrives_135 : decode cMo_ringArrives 135 = .ok (.iaload, 1) := by decide +kernel
theorem dMo_ringArrives_136 : decode cMo_ringArrives 136 = .ok (.invokevirtual 99, 3) := by decide +kernel
theorem dMo_ringArrives_139 : decode cMo_ringArrives 139 = .ok (.return_, 1) := by decide +kernel
theorem dMo_workArrives_0 : decode cMo_workArrives 0 = .ok (.iload_n 3, 1) := by decide +kernel
theorem dMo_workArrives_1 : decode cMo_workArrives 1 = .ok (.iconst 1, 1) := by decide +kernel
theorem dMo_workArrives_2 : decode cMo_workArrives 2 = .ok (.if_icmp .ne 16, 3) := by decide +kernel
theorem dMo_workArrives_5 : decode cMo_workArrives 5 = .ok (.aload_n 0, 1) := by decide +kernel
theorem dMo_workArrives_6 : decode cMo_workArrives 6 = .ok (.getfield 87, 3) := by decide +kernel
theorem dMo_workArrives_9 : decode cMo_workArrives 9 = .ok (.iload_n 2, 1) := by decide +kernel
theorem dMo_workArrives_10 : decode cMo_workArrives 10 = .ok (.dup2, 1) := by decide +kernel
theorem dMo_workArrives_11 : decode cMo_workArrives 11 = .ok (.iaload, 1) := by decide +kernel
theorem dMo_workArrives_12 : decode cMo_workArrives 12 = .ok (.iconst 1, 1) := by decide +kernel
theorem dMo_workArrives_13 : decode cMo_workArrives 13 = .ok (.isub, 1) := by decide +kernel
theorem dMo_workArrives_14 : decode cMo_workArrives 14 = .ok (.iastore, 1) := by decide +kernel
theorem dMo_workArrives_15 : decode cMo_workArrives 15 = .ok (.goto 46, 3) := by decide +kernel
theorem dMo_workArrives_18 : decode cMo_workArrives 18 = .ok (.aload_n 0, 1) := by decide +kernel
theorem dMo_workArrives_19 : decode cMo_workArrives 19 = .ok (.getfield 78, 3) := by decide +kernel
theorem dMo_workArrives_22 : decode cMo_workArrives 22 = .ok (.iload_n 2, 1) := by decide +kernel
theorem dMo_workArrives_23 : decode cMo_workArrives 23 = .ok (.if_icmp .eq 12, 3) := by decide +kernel
theorem dMo_workArrives_26 : decode cMo_workArrives 26 = .ok (.aload_n 0, 1) := by decide +kernel
theorem dMo_workArrives_27 : decode cMo_workArrives 27 = .ok (.getfield 84, 3) := by decide +kernel
theorem dMo_workArrives_30 : decode cMo_workArrives 30 = .ok (.iload_n 2, 1) := by decide +kernel
theorem dMo_workArrives_31 : decode cMo_workArrives 31 = .ok (.iaload, 1) := by decide +kernel
theorem dMo_workArrives_32 : decode cMo_workArrives 32 = .ok (.ifCond .lt 15, 3) := by decide +kernel
theorem dMo_workArrives_35 : decode cMo_workArrives 35 = .ok (.aload_n 0, 1) := by decide +kernel
theorem dMo_workArrives_36 : decode cMo_workArrives 36 = .ok (.iload_n 2, 1) := by decide +kernel
theorem dMo_workArrives_37 : decode cMo_workArrives 37 = .ok (.iload_n 1, 1) := by decide +kernel
theorem dMo_workArrives_38 : decode cMo_workArrives 38 = .ok (.iconst 4, 1) := by decide +kernel
theorem dMo_workArrives_39 : decode cMo_workArrives 39 = .ok (.iconst 1, 1) := by decide +kernel
theorem dMo_workArrives_40 : decode cMo_workArrives 40 = .ok (.iconst 0, 1) := by decide +kernel
theorem dMo_workArrives_41 : decode cMo_workArrives 41 = .ok (.invokevirtual 99, 3) := by decide +kernel
theorem dMo_workArrives_44 : decode cMo_workArrives 44 = .ok (.goto 10, 3) := by decide +kernel
theorem dMo_workArrives_47 : decode cMo_workArrives 47 = .ok (.aload_n 0, 1) := by decide +kernel
theorem dMo_workArrives_48 : decode cMo_workArrives 48 = .ok (.getfield 84, 3) := by decide +kernel
theorem dMo_workArrives_51 : decode cMo_workArrives 51 = .ok (.iload_n 2, 1) := by decide +kernel
theorem dMo_workArrives_52 : decode cMo_workArrives 52 = .ok (.iload_n 1, 1) := by decide +kernel
theorem dMo_workArrives_53 : decode cMo_workArrives 53 = .ok (.iastore, 1) := by decide +kernel
theorem dMo_workArrives_54 : decode cMo_workArrives 54 = .ok (.aload_n 0, 1) := by decide +kernel
theorem dMo_workArrives_55 : decode cMo_workArrives 55 = .ok (.getfield 81, 3) := by decide +kernel
theorem dMo_workArrives_58 : decode cMo_workArrives 58 = .ok (.iload_n 2, 1) := by decide +kernel
theorem dMo_workArrives_59 : decode cMo_workArrives 59 = .ok (.iconst 1, 1) := by decide +kernel
theorem dMo_workArrives_60 : decode cMo_workArrives 60 = .ok (.bastore, 1) := by decide +kernel
theorem dMo_workArrives_61 : decode cMo_workArrives 61 = .ok (.aload_n 0, 1) := by decide +kernel
theorem dMo_workArrives_62 : decode cMo_workArrives 62 = .ok (.iload_n 2, 1) := by decide +kernel
theorem dMo_workArrives_63 : decode cMo_workArrives 63 = .ok (.invokevirtual 167, 3) := by decide +kernel
theorem dMo_workArrives_66 : decode cMo_workArrives 66 = .ok (.return_, 1) := by decide +kernel
theorem dMo_want_0 : decode cMo_want 0 = .ok (.aload_n 0, 1) := by decide +kernel
theorem dMo_want_1 : decode cMo_want 1 = .ok (.iload_n 1, 1) := by decide +kernel
theorem dMo_want_2 : decode cMo_want 2 = .ok (.iload_n 2, 1) := by decide +kernel
theorem dMo_want_3 : decode cMo_want 3 = .ok (.invokestatic 131, 3) := by decide +kernel
theorem dMo_want_6 : decode cMo_want 6 = .ok (.ifCond .ne 7, 3) := by decide +kernel
theorem dMo_want_9 : decode cMo_want 9 = .ok (.iconst 1, 1) := by decide +kernel
theorem dMo_want_10 : decode cMo_want 10 = .ok (.goto 21, 3) := by decide +kernel
theorem dMo_want_13 : decode cMo_want 13 = .ok (.aload_n 0, 1) := by decide +kernel
theorem dMo_want_14 : decode cMo_want 14 = .ok (.getfield 32, 3) := by decide +kernel
theorem dMo_want_17 : decode cMo_want 17 = .ok (.iconst 4, 1) := by decide +kernel
theorem dMo_want_18 : decode cMo_want 18 = .ok (.iload_n 1, 1) := by decide +kernel
theorem dMo_want_19 : decode cMo_want 19 = .ok (.imul, 1) := by decide +kernel
theorem dMo_want_20 : decode cMo_want 20 = .ok (.iload_n 2, 1) := by decide +kernel
theorem dMo_want_21 : decode cMo_want 21 = .ok (.iadd, 1) := by decide +kernel
theorem dMo_want_22 : decode cMo_want 22 = .ok (.iaload, 1) := by decide +kernel
theorem dMo_want_23 : decode cMo_want 23 = .ok (.ifCond .eq 7, 3) := by decide +kernel
theorem dMo_want_26 : decode cMo_want 26 = .ok (.iconst 2, 1) := by decide +kernel
theorem dMo_want_27 : decode cMo_want 27 = .ok (.goto 4, 3) := by decide +kernel
theorem dMo_want_30 : decode cMo_want 30 = .ok (.iconst 0, 1) := by decide +kernel
theorem dMo_want_31 : decode cMo_want 31 = .ok (.putfield 90, 3) := by decide +kernel
theorem dMo_want_34 : decode cMo_want 34 = .ok (.aload_n 0, 1) := by decide +kernel
theorem dMo_want_35 : decode cMo_want 35 = .ok (.getfield 90, 3) := by decide +kernel
theorem dMo_want_38 : decode cMo_want 38 = .ok (.ifCond .eq 4, 3) := by decide +kernel
theorem dMo_want_41 : decode cMo_want 41 = .ok (.return_, 1) := by decide +kernel
theorem dMo_want_42 : decode cMo_want 42 = .ok (.iload_n 1, 1) := by decide +kernel
theorem dMo_want_43 : decode cMo_want 43 = .ok (.iconst 1, 1) := by decide +kernel
theorem dMo_want_44 : decode cMo_want 44 = .ok (.if_icmp .ne 18, 3) := by decide +kernel
theorem dMo_want_47 : decode cMo_want 47 = .ok (.aload_n 0, 1) := by decide +kernel
theorem dMo_want_48 : decode cMo_want 48 = .ok (.getfield 134, 3) := by decide +kernel
theorem dMo_want_51 : decode cMo_want 51 = .ok (.iload_n 2, 1) := by decide +kernel
theorem dMo_want_52 : decode cMo_want 52 = .ok (.if_icmp .ne 10, 3) := by decide +kernel
theorem dMo_want_55 : decode cMo_want 55 = .ok (.aload_n 0, 1) := by decide +kernel
theorem dMo_want_56 : decode cMo_want 56 = .ok (.iconst 1, 1) := by decide +kernel
theorem dMo_want_57 : decode cMo_want 57 = .ok (.iload_n 2, 1) := by decide +kernel
theorem dMo_want_58 : decode cMo_want 58 = .ok (.invokevirtual 137, 3) := by decide +kernel
theorem dMo_want_61 : decode cMo_want 61 = .ok (.return_, 1) := by decide +kernel
theorem dMo_want_62 : decode cMo_want 62 = .ok (.aload_n 0, 1) := by decide +kernel
theorem dMo_want_63 : decode cMo_want 63 = .ok (.getfield 32, 3) := by decide +kernel
theorem dMo_want_66 : decode cMo_want 66 = .ok (.iconst 4, 1) := by decide +kernel
theorem dMo_want_67 : decode cMo_want 67 = .ok (.iload_n 1, 1) := by decide +kernel
theorem dMo_want_68 : decode cMo_want 68 = .ok (.imul, 1) := by decide +kernel
theorem dMo_want_69 : decode cMo_want 69 = .ok (.iload_n 2, 1) := by decide +kernel
theorem dMo_want_70 : decode cMo_want 70 = .ok (.iadd, 1) := by decide +kernel
theorem dMo_want_71 : decode cMo_want 71 = .ok (.iconst 1, 1) := by decide +kernel
theorem dMo_want_72 : decode cMo_want 72 = .ok (.iastore, 1) := by decide +kernel
theorem dMo_want_73 : decode cMo_want 73 = .ok (.iload_n 1, 1) := by decide +kernel
theorem dMo_want_74 : decode cMo_want 74 = .ok (.ifCond .ne 48, 3) := by decide +kernel
theorem dMo_want_77 : decode cMo_want 77 = .ok (.aload_n 0, 1) := by decide +kernel
theorem dMo_want_78 : decode cMo_want 78 = .ok (.getfield 35, 3) := by decide +kernel
theorem dMo_want_81 : decode cMo_want 81 = .ok (.iload_n 2, 1) := by decide +kernel
theorem dMo_want_82 : decode cMo_want 82 = .ok (.dup2, 1) := by decide +kernel
theorem dMo_want_83 : decode cMo_want 83 = .ok (.iaload, 1) := by decide +kernel
theorem dMo_want_84 : decode cMo_want 84 = .ok (.iconst 1, 1) := by decide +kernel
theorem dMo_want_85 : decode cMo_want 85 = .ok (.iadd, 1) := by decide +kernel
theorem dMo_want_86 : decode cMo_want 86 = .ok (.iastore, 1) := by decide +kernel
theorem dMo_want_87 : decode cMo_want 87 = .ok (.aload_n 0, 1) := by decide +kernel
theorem dMo_want_88 : decode cMo_want 88 = .ok (.getfield 38, 3) := by decide +kernel
theorem dMo_want_91 : decode cMo_want 91 = .ok (.iload_n 2, 1) := by decide +kernel
theorem dMo_want_92 : decode cMo_want 92 = .ok (.aload_n 0, 1) := by decide +kernel
theorem dMo_want_93 : decode cMo_want 93 = .ok (.getfield 35, 3) := by decide +kernel
theorem dMo_want_96 : decode cMo_want 96 = .ok (.iload_n 2, 1) := by decide +kernel
theorem dMo_want_97 : decode cMo_want 97 = .ok (.iaload, 1) := by decide +kernel
theorem dMo_want_98 : decode cMo_want 98 = .ok (.iastore, 1) := by decide +kernel
theorem dMo_want_99 : decode cMo_want 99 = .ok (.aload_n 0, 1) := by decide +kernel
theorem dMo_want_100 : decode cMo_want 100 = .ok (.getfield 41, 3) := by decide +kernel
theorem dMo_want_103 : decode cMo_want 103 = .ok (.iload_n 2, 1) := by decide +kernel
theorem dMo_want_104 : decode cMo_want 104 = .ok (.iconst 0, 1) := by decide +kernel
theorem dMo_want_105 : decode cMo_want 105 = .ok (.iastore, 1) := by decide +kernel
theorem dMo_want_106 : decode cMo_want 106 = .ok (.aload_n 0, 1) := by decide +kernel
theorem dMo_want_107 : decode cMo_want 107 = .ok (.iload_n 2, 1) := by decide +kernel
theorem dMo_want_108 : decode cMo_want 108 = .ok (.iconst 0, 1) := by decide +kernel
theorem dMo_want_109 : decode cMo_want 109 = .ok (.iconst 0, 1) := by decide +kernel
theorem dMo_want_110 : decode cMo_want 110 = .ok (.aload_n 0, 1) := by decide +kernel
theorem dMo_want_111 : decode cMo_want 111 = .ok (.getfield 38, 3) := by decide +kernel
theorem dMo_want_114 : decode cMo_want 114 = .ok (.iload_n 2, 1) := by decide +kernel
theorem dMo_want_115 : decode cMo_want 115 = .ok (.iaload, 1) := by decide +kernel
theorem dMo_want_116 : decode cMo_want 116 = .ok (.invokevirtual 141, 3) := by decide +kernel
theorem dMo_want_119 : decode cMo_want 119 = .ok (.goto 49, 3) := by decide +kernel
theorem dMo_want_122 : decode cMo_want 122 = .ok (.iload_n 1, 1) := by decide +kernel
theorem dMo_want_123 : decode cMo_want 123 = .ok (.iconst 1, 1) := by decide +kernel
theorem dMo_want_124 : decode cMo_want 124 = .ok (.if_icmp .ne 33, 3) := by decide +kernel
theorem dMo_want_127 : decode cMo_want 127 = .ok (.aload_n 0, 1) := by decide +kernel
theorem dMo_want_128 : decode cMo_want 128 = .ok (.getfield 47, 3) := by decide +kernel
theorem dMo_want_131 : decode cMo_want 131 = .ok (.iconst 5, 1) := by decide +kernel
theorem dMo_want_132 : decode cMo_want 132 = .ok (.iload_n 2, 1) := by decide +kernel
theorem dMo_want_133 : decode cMo_want 133 = .ok (.imul, 1) := by decide +kernel
theorem dMo_want_134 : decode cMo_want 134 = .ok (.dup2, 1) := by decide +kernel
theorem dMo_want_135 : decode cMo_want 135 = .ok (.iaload, 1) := by decide +kernel
theorem dMo_want_136 : decode cMo_want 136 = .ok (.iconst 1, 1) := by decide +kernel
theorem dMo_want_137 : decode cMo_want 137 = .ok (.iadd, 1) := by decide +kernel
theorem dMo_want_138 : decode cMo_want 138 = .ok (.iastore, 1) := by decide +kernel
theorem dMo_want_139 : decode cMo_want 139 = .ok (.aload_n 0, 1) := by decide +kernel
theorem dMo_want_140 : decode cMo_want 140 = .ok (.iload_n 2, 1) := by decide +kernel
theorem dMo_want_141 : decode cMo_want 141 = .ok (.iconst 1, 1) := by decide +kernel
theorem dMo_want_142 : decode cMo_want 142 = .ok (.iconst 0, 1) := by decide +kernel
theorem dMo_want_143 : decode cMo_want 143 = .ok (.aload_n 0, 1) := by decide +kernel
theorem dMo_want_144 : decode cMo_want 144 = .ok (.getfield 47, 3) := by decide +kernel
theorem dMo_want_147 : decode cMo_want 147 = .ok (.iconst 5, 1) := by decide +kernel
theorem dMo_want_148 : decode cMo_want 148 = .ok (.iload_n 2, 1) := by decide +kernel
theorem dMo_want_149 : decode cMo_want 149 = .ok (.imul, 1) := by decide +kernel
theorem dMo_want_150 : decode cMo_want 150 = .ok (.iaload, 1) := by decide +kernel
theorem dMo_want_151 : decode cMo_want 151 = .ok (.invokevirtual 141, 3) := by decide +kernel
theorem dMo_want_154 : decode cMo_want 154 = .ok (.goto 14, 3) := by decide +kernel
theorem dMo_want_157 : decode cMo_want 157 = .ok (.aload_n 0, 1) := by decide +kernel
theorem dMo_want_158 : decode cMo_want 158 = .ok (.iload_n 2, 1) := by decide +kernel
theorem dMo_want_159 : decode cMo_want 159 = .ok (.iload_n 2, 1) := by decide +kernel
theorem dMo_want_160 : decode cMo_want 160 = .ok (.invokevirtual 144, 3) := by decide +kernel
theorem dMo_want_163 : decode cMo_want 163 = .ok (.aload_n 0, 1) := by decide +kernel
theorem dMo_want_164 : decode cMo_want 164 = .ok (.iload_n 2, 1) := by decide +kernel
theorem dMo_want_165 : decode cMo_want 165 = .ok (.invokevirtual 147, 3) := by decide +kernel
theorem dMo_want_168 : decode cMo_want 168 = .ok (.return_, 1) := by decide +kernel
theorem dMo_leave_0 : decode cMo_leave 0 = .ok (.aload_n 0, 1) := by decide +kernel
theorem dMo_leave_1 : decode cMo_leave 1 = .ok (.iload_n 1, 1) := by decide +kernel
theorem dMo_leave_2 : decode cMo_leave 2 = .ok (.iload_n 2, 1) := by decide +kernel
theorem dMo_leave_3 : decode cMo_leave 3 = .ok (.invokestatic 131, 3) := by decide +kernel
theorem dMo_leave_6 : decode cMo_leave 6 = .ok (.ifCond .ne 7, 3) := by decide +kernel
theorem dMo_leave_9 : decode cMo_leave 9 = .ok (.iconst 1, 1) := by decide +kernel
theorem dMo_leave_10 : decode cMo_leave 10 = .ok (.goto 22, 3) := by decide +kernel
theorem dMo_leave_13 : decode cMo_leave 13 = .ok (.aload_n 0, 1) := by decide +kernel
theorem dMo_leave_14 : decode cMo_leave 14 = .ok (.getfield 32, 3) := by decide +kernel
theorem dMo_leave_17 : decode cMo_leave 17 = .ok (.iconst 4, 1) := by decide +kernel
theorem dMo_leave_18 : decode cMo_leave 18 = .ok (.iload_n 1, 1) := by decide +kernel
theorem dMo_leave_19 : decode cMo_leave 19 = .ok (.imul, 1) := by decide +kernel
theorem dMo_leave_20 : decode cMo_leave 20 = .ok (.iload_n 2, 1) := by decide +kernel
theorem dMo_leave_21 : decode cMo_leave 21 = .ok (.iadd, 1) := by decide +kernel
theorem dMo_leave_22 : decode cMo_leave 22 = .ok (.iaload, 1) := by decide +kernel
theorem dMo_leave_23 : decode cMo_leave 23 = .ok (.iconst 2, 1) := by decide +kernel
theorem dMo_leave_24 : decode cMo_leave 24 = .ok (.if_icmp .eq 7, 3) := by decide +kernel
theorem dMo_leave_27 : decode cMo_leave 27 = .ok (.iconst 2, 1) := by decide +kernel
theorem dMo_leave_28 : decode cMo_leave 28 = .ok (.goto 4, 3) := by decide +kernel
theorem dMo_leave_31 : decode cMo_leave 31 = .ok (.iconst 0, 1) := by decide +kernel
theorem dMo_leave_32 : decode cMo_leave 32 = .ok (.putfield 90, 3) := by decide +kernel
theorem dMo_leave_35 : decode cMo_leave 35 = .ok (.aload_n 0, 1) := by decide +kernel
theorem dMo_leave_36 : decode cMo_leave 36 = .ok (.getfield 90, 3) := by decide +kernel
theorem dMo_leave_39 : decode cMo_leave 39 = .ok (.ifCond .eq 4, 3) := by decide +kernel
theorem dMo_leave_42 : decode cMo_leave 42 = .ok (.return_, 1) := by decide +kernel
theorem dMo_leave_43 : decode cMo_leave 43 = .ok (.aload_n 0, 1) := by decide +kernel
theorem dMo_leave_44 : decode cMo_leave 44 = .ok (.getfield 32, 3) := by decide +kernel
theorem dMo_leave_47 : decode cMo_leave 47 = .ok (.iconst 4, 1) := by decide +kernel
theorem dMo_leave_48 : decode cMo_leave 48 = .ok (.iload_n 1, 1) := by decide +kernel
theorem dMo_leave_49 : decode cMo_leave 49 = .ok (.imul, 1) := by decide +kernel
theorem dMo_leave_50 : decode cMo_leave 50 = .ok (.iload_n 2, 1) := by decide +kernel
theorem dMo_leave_51 : decode cMo_leave 51 = .ok (.iadd, 1) := by decide +kernel
theorem dMo_leave_52 : decode cMo_leave 52 = .ok (.iconst 0, 1) := by decide +kernel
theorem dMo_leave_53 : decode cMo_leave 53 = .ok (.iastore, 1) := by decide +kernel
theorem dMo_leave_54 : decode cMo_leave 54 = .ok (.iload_n 1, 1) := by decide +kernel
theorem dMo_leave_55 : decode cMo_leave 55 = .ok (.ifCond .ne 55, 3) := by decide +kernel
theorem dMo_leave_58 : decode cMo_leave 58 = .ok (.aload_n 0, 1) := by decide +kernel
theorem dMo_leave_59 : decode cMo_leave 59 = .ok (.getfield 44, 3) := by decide +kernel
theorem dMo_leave_62 : decode cMo_leave 62 = .ok (.iload_n 2, 1) := by decide +kernel
theorem dMo_leave_63 : decode cMo_leave 63 = .ok (.iaload, 1) := by decide +kernel
theorem dMo_leave_64 : decode cMo_leave 64 = .ok (.istore_n 3, 1) := by decide +kernel
theorem dMo_leave_65 : decode cMo_leave 65 = .ok (.aload_n 0, 1) := by decide +kernel
theorem dMo_leave_66 : decode cMo_leave 66 = .ok (.getfield 44, 3) := by decide +kernel
theorem dMo_leave_69 : decode cMo_leave 69 = .ok (.iload_n 2, 1) := by decide +kernel
theorem dMo_leave_70 : decode cMo_leave 70 = .ok (.iconst 0, 1) := by decide +kernel
theorem dMo_leave_71 : decode cMo_leave 71 = .ok (.iastore, 1) := by decide +kernel
theorem dMo_leave_72 : decode cMo_leave 72 = .ok (.iconst 0, 1) := by decide +kernel
theorem dMo_leave_73 : decode cMo_leave 73 = .ok (.istore 4, 2) := by decide +kernel
theorem dMo_leave_75 : decode cMo_leave 75 = .ok (.iload 4, 2) := by decide +kernel
theorem dMo_leave_77 : decode cMo_leave 77 = .ok (.iconst 4, 1) := by decide +kernel
theorem dMo_leave_78 : decode cMo_leave 78 = .ok (.if_icmp .ge 29, 3) := by decide +kernel
theorem dMo_leave_81 : decode cMo_leave 81 = .ok (.iload_n 3, 1) := by decide +kernel
theorem dMo_leave_82 : decode cMo_leave 82 = .ok (.iload 4, 2) := by decide +kernel
theorem dMo_leave_84 : decode cMo_leave 84 = .ok (.ishr, 1) := by decide +kernel
theorem dMo_leave_85 : decode cMo_leave 85 = .ok (.iconst 1, 1) := by decide +kernel
theorem dMo_leave_86 : decode cMo_leave 86 = .ok (.iand, 1) := by decide +kernel
theorem dMo_leave_87 : decode cMo_leave 87 = .ok (.iconst 1, 1) := by decide +kernel
theorem dMo_leave_88 : decode cMo_leave 88 = .ok (.if_icmp .ne 13, 3) := by decide +kernel
theorem dMo_leave_91 : decode cMo_leave 91 = .ok (.aload_n 0, 1) := by decide +kernel
theorem dMo_leave_92 : decode cMo_leave 92 = .ok (.iload_n 2, 1) := by decide +kernel
theorem dMo_leave_93 : decode cMo_leave 93 = .ok (.iload 4, 2) := by decide +kernel
theorem dMo_leave_95 : decode cMo_leave 95 = .ok (.iconst 0, 1) := by decide +kernel
theorem dMo_leave_96 : decode cMo_leave 96 = .ok (.iconst 1, 1) := by decide +kernel
theorem dMo_leave_97 : decode cMo_leave 97 = .ok (.iconst 0, 1) := by decide +kernel
theorem dMo_leave_98 : decode cMo_leave 98 = .ok (.invokevirtual 99, 3) := by decide +kernel
theorem dMo_leave_101 : decode cMo_leave 101 = .ok (.iinc 4 1, 3) := by decide +kernel
theorem dMo_leave_104 : decode cMo_leave 104 = .ok (.goto (-29), 3) := by decide +kernel
theorem dMo_leave_107 : decode cMo_leave 107 = .ok (.goto 21, 3) := by decide +kernel
theorem dMo_leave_110 : decode cMo_leave 110 = .ok (.iload_n 1, 1) := by decide +kernel
theorem dMo_leave_111 : decode cMo_leave 111 = .ok (.iconst 1, 1) := by decide +kernel
theorem dMo_leave_112 : decode cMo_leave 112 = .ok (.if_icmp .ne 11, 3) := by decide +kernel
theorem dMo_leave_115 : decode cMo_leave 115 = .ok (.aload_n 0, 1) := by decide +kernel
theorem dMo_leave_116 : decode cMo_leave 116 = .ok (.iload_n 2, 1) := by decide +kernel
theorem dMo_leave_117 : decode cMo_leave 117 = .ok (.invokevirtual 151, 3) := by decide +kernel
theorem dMo_leave_120 : decode cMo_leave 120 = .ok (.goto 8, 3) := by decide +kernel
theorem dMo_leave_123 : decode cMo_leave 123 = .ok (.aload_n 0, 1) := by decide +kernel
theorem dMo_leave_124 : decode cMo_leave 124 = .ok (.iload_n 2, 1) := by decide +kernel
theorem dMo_leave_125 : decode cMo_leave 125 = .ok (.invokevirtual 147, 3) := by decide +kernel
theorem dMo_leave_128 : decode cMo_leave 128 = .ok (.return_, 1) := by decide +kernel
theorem dMo_start_0 : decode cMo_start 0 = .ok (.aload_n 0, 1) := by decide +kernel
theorem dMo_start_1 : decode cMo_start 1 = .ok (.iload_n 1, 1) := by decide +kernel
theorem dMo_start_2 : decode cMo_start 2 = .ok (.invokestatic 103, 3) := by decide +kernel
theorem dMo_start_5 : decode cMo_start 5 = .ok (.ifCond .ne 7, 3) := by decide +kernel
theorem dMo_start_8 : decode cMo_start 8 = .ok (.iconst 1, 1) := by decide +kernel
theorem dMo_start_9 : decode cMo_start 9 = .ok (.goto 17, 3) := by decide +kernel
theorem dMo_start_12 : decode cMo_start 12 = .ok (.aload_n 0, 1) := by decide +kernel
theorem dMo_start_13 : decode cMo_start 13 = .ok (.getfield 75, 3) := by decide +kernel
theorem dMo_start_16 : decode cMo_start 16 = .ok (.iload_n 1, 1) := by decide +kernel
theorem dMo_start_17 : decode cMo_start 17 = .ok (.baload, 1) := by decide +kernel
theorem dMo_start_18 : decode cMo_start 18 = .ok (.ifCond .eq 7, 3) := by decide +kernel
theorem dMo_start_21 : decode cMo_start 21 = .ok (.iconst 2, 1) := by decide +kernel
theorem dMo_start_22 : decode cMo_start 22 = .ok (.goto 4, 3) := by decide +kernel
theorem dMo_start_25 : decode cMo_start 25 = .ok (.iconst 0, 1) := by decide +kernel
theorem dMo_start_26 : decode cMo_start 26 = .ok (.putfield 90, 3) := by decide +kernel
theorem dMo_start_29 : decode cMo_start 29 = .ok (.aload_n 0, 1) := by decide +kernel
theorem dMo_start_30 : decode cMo_start 30 = .ok (.getfield 90, 3) := by decide +kernel
theorem dMo_start_33 : decode cMo_start 33 = .ok (.ifCond .ne 28, 3) := by decide +kernel
theorem dMo_start_36 : decode cMo_start 36 = .ok (.aload_n 0, 1) := by decide +kernel
theorem dMo_start_37 : decode cMo_start 37 = .ok (.getfield 75, 3) := by decide +kernel
theorem dMo_start_40 : decode cMo_start 40 = .ok (.iload_n 1, 1) := by decide +kernel
theorem dMo_start_41 : decode cMo_start 41 = .ok (.iconst 1, 1) := by decide +kernel
theorem dMo_start_42 : decode cMo_start 42 = .ok (.bastore, 1) := by decide +kernel
theorem dMo_start_43 : decode cMo_start 43 = .ok (.aload_n 0, 1) := by decide +kernel
theorem dMo_start_44 : decode cMo_start 44 = .ok (.iload_n 1, 1) := by decide +kernel
theorem dMo_start_45 : decode cMo_start 45 = .ok (.iload_n 1, 1) := by decide +kernel
theorem dMo_start_46 : decode cMo_start 46 = .ok (.iconst 1, 1) := by decide +kernel
theorem dMo_start_47 : decode cMo_start 47 = .ok (.iadd, 1) := by decide +kernel
theorem dMo_start_48 : decode cMo_start 48 = .ok (.iconst 4, 1) := by decide +kernel
theorem dMo_start_49 : decode cMo_start 49 = .ok (.irem, 1) := by decide +kernel
theorem dMo_start_50 : decode cMo_start 50 = .ok (.iconst 3, 1) := by decide +kernel
theorem dMo_start_51 : decode cMo_start 51 = .ok (.iconst 0, 1) := by decide +kernel
theorem dMo_start_52 : decode cMo_start 52 = .ok (.aload_n 0, 1) := by decide +kernel
theorem dMo_start_53 : decode cMo_start 53 = .ok (.getfield 69, 3) := by decide +kernel
theorem dMo_start_56 : decode cMo_start 56 = .ok (.iload_n 1, 1) := by decide +kernel
theorem dMo_start_57 : decode cMo_start 57 = .ok (.iaload, 1) := by decide +kernel
theorem dMo_start_58 : decode cMo_start 58 = .ok (.invokevirtual 99, 3) := by decide +kernel
theorem dMo_start_61 : decode cMo_start 61 = .ok (.return_, 1) := by decide +kernel
theorem dMo_begin_0 : decode cMo_begin 0 = .ok (.aload_n 0, 1) := by decide +kernel
theorem dMo_begin_1 : decode cMo_begin 1 = .ok (.getfield 78, 3) := by decide +kernel
theorem dMo_begin_4 : decode cMo_begin 4 = .ok (.ifCond .lt 7, 3) := by decide +kernel
theorem dMo_begin_7 : decode cMo_begin 7 = .ok (.iconst 1, 1) := by decide +kernel
theorem dMo_begin_8 : decode cMo_begin 8 = .ok (.goto 4, 3) := by decide +kernel
theorem dMo_begin_11 : decode cMo_begin 11 = .ok (.iconst 0, 1) := by decide +kernel
theorem dMo_begin_12 : decode cMo_begin 12 = .ok (.istore_n 2, 1) := by decide +kernel
theorem dMo_begin_13 : decode cMo_begin 13 = .ok (.iconst 0, 1) := by decide +kernel
theorem dMo_begin_14 : decode cMo_begin 14 = .ok (.istore_n 3, 1) := by decide +kernel
theorem dMo_begin_15 : decode cMo_begin 15 = .ok (.iload_n 3, 1) := by decide +kernel
theorem dMo_begin_16 : decode cMo_begin 16 = .ok (.iconst 4, 1) := by decide +kernel
theorem dMo_begin_17 : decode cMo_begin 17 = .ok (.if_icmp .ge 46, 3) := by decide +kernel
theorem dMo_begin_20 : decode cMo_begin 20 = .ok (.iload_n 2, 1) := by decide +kernel
theorem dMo_begin_21 : decode cMo_begin 21 = .ok (.ifCond .ne 30, 3) := by decide +kernel
theorem dMo_begin_24 : decode cMo_begin 24 = .ok (.aload_n 0, 1) := by decide +kernel
theorem dMo_begin_25 : decode cMo_begin 25 = .ok (.getfield 81, 3) := by decide +kernel
theorem dMo_begin_28 : decode cMo_begin 28 = .ok (.iload_n 3, 1) := by decide +kernel
theorem dMo_begin_29 : decode cMo_begin 29 = .ok (.baload, 1) := by decide +kernel
theorem dMo_begin_30 : decode cMo_begin 30 = .ok (.ifCond .ne 21, 3) := by decide +kernel
theorem dMo_begin_33 : decode cMo_begin 33 = .ok (.aload_n 0, 1) := by decide +kernel
theorem dMo_begin_34 : decode cMo_begin 34 = .ok (.getfield 84, 3) := by decide +kernel
theorem dMo_begin_37 : decode cMo_begin 37 = .ok (.iload_n 3, 1) := by decide +kernel
theorem dMo_begin_38 : decode cMo_begin 38 = .ok (.iaload, 1) := by decide +kernel
theorem dMo_begin_39 : decode cMo_begin 39 = .ok (.ifCond .ge 12, 3) := by decide +kernel
theorem dMo_begin_42 : decode cMo_begin 42 = .ok (.aload_n 0, 1) := by decide +kernel
theorem dMo_begin_43 : decode cMo_begin 43 = .ok (.getfield 87, 3) := by decide +kernel
theorem dMo_begin_46 : decode cMo_begin 46 = .ok (.iload_n 3, 1) := by decide +kernel
theorem dMo_begin_47 : decode cMo_begin 47 = .ok (.iaload, 1) := by decide +kernel
theorem dMo_begin_48 : decode cMo_begin 48 = .ok (.ifCond .le 7, 3) := by decide +kernel
theorem dMo_begin_51 : decode cMo_begin 51 = .ok (.iconst 1, 1) := by decide +kernel
theorem dMo_begin_52 : decode cMo_begin 52 = .ok (.goto 4, 3) := by decide +kernel
theorem dMo_begin_55 : decode cMo_begin 55 = .ok (.iconst 0, 1) := by decide +kernel
theorem dMo_begin_56 : decode cMo_begin 56 = .ok (.istore_n 2, 1) := by decide +kernel
theorem dMo_begin_57 : decode cMo_begin 57 = .ok (.iinc 3 1, 3) := by decide +kernel
theorem dMo_begin_60 : decode cMo_begin 60 = .ok (.goto (-45), 3) := by decide +kernel
theorem dMo_begin_63 : decode cMo_begin 63 = .ok (.aload_n 0, 1) := by decide +kernel
theorem dMo_begin_64 : decode cMo_begin 64 = .ok (.iload_n 1, 1) := by decide +kernel
theorem dMo_begin_65 : decode cMo_begin 65 = .ok (.invokestatic 103, 3) := by decide +kernel
theorem dMo_begin_68 : decode cMo_begin 68 = .ok (.ifCond .ne 7, 3) := by decide +kernel
theorem dMo_begin_71 : decode cMo_begin 71 = .ok (.iconst 1, 1) := by decide +kernel
theorem dMo_begin_72 : decode cMo_begin 72 = .ok (.goto 12, 3) := by decide +kernel
theorem dMo_begin_75 : decode cMo_begin 75 = .ok (.iload_n 2, 1) := by decide +kernel
theorem dMo_begin_76 : decode cMo_begin 76 = .ok (.ifCond .eq 7, 3) := by decide +kernel
theorem dMo_begin_79 : decode cMo_begin 79 = .ok (.iconst 2, 1) := by decide +kernel
theorem dMo_begin_80 : decode cMo_begin 80 = .ok (.goto 4, 3) := by decide +kernel
theorem dMo_begin_83 : decode cMo_begin 83 = .ok (.iconst 0, 1) := by decide +kernel
theorem dMo_begin_84 : decode cMo_begin 84 = .ok (.putfield 90, 3) := by decide +kernel
theorem dMo_begin_87 : decode cMo_begin 87 = .ok (.aload_n 0, 1) := by decide +kernel
theorem dMo_begin_88 : decode cMo_begin 88 = .ok (.getfield 90, 3) := by decide +kernel
theorem dMo_begin_91 : decode cMo_begin 91 = .ok (.ifCond .ne 15, 3) := by decide +kernel
theorem dMo_begin_94 : decode cMo_begin 94 = .ok (.aload_n 0, 1) := by decide +kernel
theorem dMo_begin_95 : decode cMo_begin 95 = .ok (.iload_n 1, 1) := by decide +kernel
theorem dMo_begin_96 : decode cMo_begin 96 = .ok (.putfield 78, 3) := by decide +kernel
theorem dMo_begin_99 : decode cMo_begin 99 = .ok (.aload_n 0, 1) := by decide +kernel
theorem dMo_begin_100 : decode cMo_begin 100 = .ok (.getfield 81, 3) := by decide +kernel
theorem dMo_begin_103 : decode cMo_begin 103 = .ok (.iload_n 1, 1) := by decide +kernel
theorem dMo_begin_104 : decode cMo_begin 104 = .ok (.iconst 1, 1) := by decide +kernel
theorem dMo_begin_105 : decode cMo_begin 105 = .ok (.bastore, 1) := by decide +kernel
theorem dMo_begin_106 : decode cMo_begin 106 = .ok (.return_, 1) := by decide +kernel
theorem dMo_spread_0 : decode cMo_spread 0 = .ok (.aload_n 0, 1) := by decide +kernel
theorem dMo_spread_1 : decode cMo_spread 1 = .ok (.iload_n 1, 1) := by decide +kernel
theorem dMo_spread_2 : decode cMo_spread 2 = .ok (.iload_n 2, 1) := by decide +kernel
theorem dMo_spread_3 : decode cMo_spread 3 = .ok (.invokestatic 107, 3) := by decide +kernel
theorem dMo_spread_6 : decode cMo_spread 6 = .ok (.ifCond .ne 7, 3) := by decide +kernel
theorem dMo_spread_9 : decode cMo_spread 9 = .ok (.iconst 1, 1) := by decide +kernel
theorem dMo_spread_10 : decode cMo_spread 10 = .ok (.goto 28, 3) := by decide +kernel
theorem dMo_spread_13 : decode cMo_spread 13 = .ok (.aload_n 0, 1) := by decide +kernel
theorem dMo_spread_14 : decode cMo_spread 14 = .ok (.getfield 81, 3) := by decide +kernel
theorem dMo_spread_17 : decode cMo_spread 17 = .ok (.iload_n 1, 1) := by decide +kernel
theorem dMo_spread_18 : decode cMo_spread 18 = .ok (.baload, 1) := by decide +kernel
theorem dMo_spread_19 : decode cMo_spread 19 = .ok (.ifCond .eq 14, 3) := by decide +kernel
theorem dMo_spread_22 : decode cMo_spread 22 = .ok (.aload_n 0, 1) := by decide +kernel
theorem dMo_spread_23 : decode cMo_spread 23 = .ok (.getfield 87, 3) := by decide +kernel
theorem dMo_spread_26 : decode cMo_spread 26 = .ok (.iload_n 1, 1) := by decide +kernel
theorem dMo_spread_27 : decode cMo_spread 27 = .ok (.iaload, 1) := by decide +kernel
theorem dMo_spread_28 : decode cMo_spread 28 = .ok (.bipush 20, 2) := by decide +kernel
theorem dMo_spread_30 : decode cMo_spread 30 = .ok (.if_icmp .ne 7, 3) := by decide +kernel
theorem dMo_spread_33 : decode cMo_spread 33 = .ok (.iconst 2, 1) := by decide +kernel
theorem dMo_spread_34 : decode cMo_spread 34 = .ok (.goto 4, 3) := by decide +kernel
theorem dMo_spread_37 : decode cMo_spread 37 = .ok (.iconst 0, 1) := by decide +kernel
theorem dMo_spread_38 : decode cMo_spread 38 = .ok (.putfield 90, 3) := by decide +kernel
theorem dMo_spread_41 : decode cMo_spread 41 = .ok (.aload_n 0, 1) := by decide +kernel
theorem dMo_spread_42 : decode cMo_spread 42 = .ok (.getfield 90, 3) := by decide +kernel
theorem dMo_spread_45 : decode cMo_spread 45 = .ok (.ifCond .ne 22, 3) := by decide +kernel
theorem dMo_spread_48 : decode cMo_spread 48 = .ok (.aload_n 0, 1) := by decide +kernel
theorem dMo_spread_49 : decode cMo_spread 49 = .ok (.getfield 87, 3) := by decide +kernel
theorem dMo_spread_52 : decode cMo_spread 52 = .ok (.iload_n 1, 1) := by decide +kernel
theorem dMo_spread_53 : decode cMo_spread 53 = .ok (.dup2, 1) := by decide +kernel
theorem dMo_spread_54 : decode cMo_spread 54 = .ok (.iaload, 1) := by decide +kernel
theorem dMo_spread_55 : decode cMo_spread 55 = .ok (.iconst 1, 1) := by decide +kernel
theorem dMo_spread_56 : decode cMo_spread 56 = .ok (.iadd, 1) := by decide +kernel
theorem dMo_spread_57 : decode cMo_spread 57 = .ok (.iastore, 1) := by decide +kernel
theorem dMo_spread_58 : decode cMo_spread 58 = .ok (.aload_n 0, 1) := by decide +kernel
theorem dMo_spread_59 : decode cMo_spread 59 = .ok (.iload_n 1, 1) := by decide +kernel
theorem dMo_spread_60 : decode cMo_spread 60 = .ok (.iload_n 2, 1) := by decide +kernel
theorem dMo_spread_61 : decode cMo_spread 61 = .ok (.iconst 4, 1) := by decide +kernel
theorem dMo_spread_62 : decode cMo_spread 62 = .ok (.iconst 0, 1) := by decide +kernel
theorem dMo_spread_63 : decode cMo_spread 63 = .ok (.iconst 0, 1) := by decide +kernel
theorem dMo_spread_64 : decode cMo_spread 64 = .ok (.invokevirtual 99, 3) := by decide +kernel
theorem dMo_spread_67 : decode cMo_spread 67 = .ok (.return_, 1) := by decide +kernel
theorem dMo_rest_0 : decode cMo_rest 0 = .ok (.aload_n 0, 1) := by decide +kernel
theorem dMo_rest_1 : decode cMo_rest 1 = .ok (.iload_n 1, 1) := by decide +kernel
theorem dMo_rest_2 : decode cMo_rest 2 = .ok (.invokestatic 103, 3) := by decide +kernel
theorem dMo_rest_5 : decode cMo_rest 5 = .ok (.ifCond .ne 7, 3) := by decide +kernel
theorem dMo_rest_8 : decode cMo_rest 8 = .ok (.iconst 1, 1) := by decide +kernel
theorem dMo_rest_9 : decode cMo_rest 9 = .ok (.goto 17, 3) := by decide +kernel
theorem dMo_rest_12 : decode cMo_rest 12 = .ok (.aload_n 0, 1) := by decide +kernel
theorem dMo_rest_13 : decode cMo_rest 13 = .ok (.getfield 81, 3) := by decide +kernel
theorem dMo_rest_16 : decode cMo_rest 16 = .ok (.iload_n 1, 1) := by decide +kernel
theorem dMo_rest_17 : decode cMo_rest 17 = .ok (.baload, 1) := by decide +kernel
theorem dMo_rest_18 : decode cMo_rest 18 = .ok (.ifCond .ne 7, 3) := by decide +kernel
theorem dMo_rest_21 : decode cMo_rest 21 = .ok (.iconst 2, 1) := by decide +kernel
theorem dMo_rest_22 : decode cMo_rest 22 = .ok (.goto 4, 3) := by decide +kernel
theorem dMo_rest_25 : decode cMo_rest 25 = .ok (.iconst 0, 1) := by decide +kernel
theorem dMo_rest_26 : decode cMo_rest 26 = .ok (.putfield 90, 3) := by decide +kernel
theorem dMo_rest_29 : decode cMo_rest 29 = .ok (.aload_n 0, 1) := by decide +kernel
theorem dMo_rest_30 : decode cMo_rest 30 = .ok (.getfield 90, 3) := by decide +kernel
theorem dMo_rest_33 : decode cMo_rest 33 = .ok (.ifCond .ne 15, 3) := by decide +kernel
theorem dMo_rest_36 : decode cMo_rest 36 = .ok (.aload_n 0, 1) := by decide +kernel
theorem dMo_rest_37 : decode cMo_rest 37 = .ok (.getfield 81, 3) := by decide +kernel
theorem dMo_rest_40 : decode cMo_rest 40 = .ok (.iload_n 1, 1) := by decide +kernel
theorem dMo_rest_41 : decode cMo_rest 41 = .ok (.iconst 0, 1) := by decide +kernel
theorem dMo_rest_42 : decode cMo_rest 42 = .ok (.bastore, 1) := by decide +kernel
theorem dMo_rest_43 : decode cMo_rest 43 = .ok (.aload_n 0, 1) := by decide +kernel
theorem dMo_rest_44 : decode cMo_rest 44 = .ok (.iload_n 1, 1) := by decide +kernel
theorem dMo_rest_45 : decode cMo_rest 45 = .ok (.invokevirtual 167, 3) := by decide +kernel
theorem dMo_rest_48 : decode cMo_rest 48 = .ok (.return_, 1) := by decide +kernel
theorem dMo_deliver_0 : decode cMo_deliver 0 = .ok (.aload_n 0, 1) := by decide +kernel
theorem dMo_deliver_1 : decode cMo_deliver 1 = .ok (.iload_n 1, 1) := by decide +kernel
theorem dMo_deliver_2 : decode cMo_deliver 2 = .ok (.iload_n 2, 1) := by decide +kernel
theorem dMo_deliver_3 : decode cMo_deliver 3 = .ok (.invokestatic 107, 3) := by decide +kernel
theorem dMo_deliver_6 : decode cMo_deliver 6 = .ok (.ifCond .ne 7, 3) := by decide +kernel
theorem dMo_deliver_9 : decode cMo_deliver 9 = .ok (.iconst 1, 1) := by decide +kernel
theorem dMo_deliver_10 : decode cMo_deliver 10 = .ok (.goto 21, 3) := by decide +kernel
theorem dMo_deliver_13 : decode cMo_deliver 13 = .ok (.aload_n 0, 1) := by decide +kernel
theorem dMo_deliver_14 : decode cMo_deliver 14 = .ok (.getfield 7, 3) := by decide +kernel
theorem dMo_deliver_17 : decode cMo_deliver 17 = .ok (.iconst 4, 1) := by decide +kernel
theorem dMo_deliver_18 : decode cMo_deliver 18 = .ok (.iload_n 1, 1) := by decide +kernel
theorem dMo_deliver_19 : decode cMo_deliver 19 = .ok (.imul, 1) := by decide +kernel
theorem dMo_deliver_20 : decode cMo_deliver 20 = .ok (.iload_n 2, 1) := by decide +kernel
theorem dMo_deliver_21 : decode cMo_deliver 21 = .ok (.iadd, 1) := by decide +kernel
theorem dMo_deliver_22 : decode cMo_deliver 22 = .ok (.iaload, 1) := by decide +kernel
theorem dMo_deliver_23 : decode cMo_deliver 23 = .ok (.ifCond .ge 7, 3) := by decide +kernel
theorem dMo_deliver_26 : decode cMo_deliver 26 = .ok (.iconst 2, 1) := by decide +kernel
theorem dMo_deliver_27 : decode cMo_deliver 27 = .ok (.goto 4, 3) := by decide +kernel
theorem dMo_deliver_30 : decode cMo_deliver 30 = .ok (.iconst 0, 1) := by decide +kernel
theorem dMo_deliver_31 : decode cMo_deliver 31 = .ok (.putfield 90, 3) := by decide +kernel
theorem dMo_deliver_34 : decode cMo_deliver 34 = .ok (.aload_n 0, 1) := by decide +kernel
theorem dMo_deliver_35 : decode cMo_deliver 35 = .ok (.getfield 90, 3) := by decide +kernel
theorem dMo_deliver_38 : decode cMo_deliver 38 = .ok (.ifCond .eq 5, 3) := by decide +kernel
theorem dMo_deliver_41 : decode cMo_deliver 41 = .ok (.iconst 0, 1) := by decide +kernel
theorem dMo_deliver_42 : decode cMo_deliver 42 = .ok (.ireturn, 1) := by decide +kernel
theorem dMo_deliver_43 : decode cMo_deliver 43 = .ok (.iconst 4, 1) := by decide +kernel
theorem dMo_deliver_44 : decode cMo_deliver 44 = .ok (.iload_n 1, 1) := by decide +kernel
theorem dMo_deliver_45 : decode cMo_deliver 45 = .ok (.imul, 1) := by decide +kernel
theorem dMo_deliver_46 : decode cMo_deliver 46 = .ok (.iload_n 2, 1) := by decide +kernel
theorem dMo_deliver_47 : decode cMo_deliver 47 = .ok (.iadd, 1) := by decide +kernel
theorem dMo_deliver_48 : decode cMo_deliver 48 = .ok (.istore_n 3, 1) := by decide +kernel
theorem dMo_deliver_49 : decode cMo_deliver 49 = .ok (.aload_n 0, 1) := by decide +kernel
theorem dMo_deliver_50 : decode cMo_deliver 50 = .ok (.getfield 7, 3) := by decide +kernel
theorem dMo_deliver_53 : decode cMo_deliver 53 = .ok (.iload_n 3, 1) := by decide +kernel
theorem dMo_deliver_54 : decode cMo_deliver 54 = .ok (.iaload, 1) := by decide +kernel
theorem dMo_deliver_55 : decode cMo_deliver 55 = .ok (.istore 4, 2) := by decide +kernel
theorem dMo_deliver_57 : decode cMo_deliver 57 = .ok (.aload_n 0, 1) := by decide +kernel
theorem dMo_deliver_58 : decode cMo_deliver 58 = .ok (.getfield 7, 3) := by decide +kernel
theorem dMo_deliver_61 : decode cMo_deliver 61 = .ok (.iload_n 3, 1) := by decide +kernel
theorem dMo_deliver_62 : decode cMo_deliver 62 = .ok (.aload_n 0, 1) := by decide +kernel
theorem dMo_deliver_63 : decode cMo_deliver 63 = .ok (.getfield 25, 3) := by decide +kernel
theorem dMo_deliver_66 : decode cMo_deliver 66 = .ok (.iload 4, 2) := by decide +kernel
theorem dMo_deliver_68 : decode cMo_deliver 68 = .ok (.iaload, 1) := by decide +kernel
theorem dMo_deliver_69 : decode cMo_deliver 69 = .ok (.iastore, 1) := by decide +kernel
theorem dMo_deliver_70 : decode cMo_deliver 70 = .ok (.aload_n 0, 1) := by decide +kernel
theorem dMo_deliver_71 : decode cMo_deliver 71 = .ok (.getfield 13, 3) := by decide +kernel
theorem dMo_deliver_74 : decode cMo_deliver 74 = .ok (.iload_n 3, 1) := by decide +kernel
theorem dMo_deliver_75 : decode cMo_deliver 75 = .ok (.aload_n 0, 1) := by decide +kernel
theorem dMo_deliver_76 : decode cMo_deliver 76 = .ok (.getfield 7, 3) := by decide +kernel
theorem dMo_deliver_79 : decode cMo_deliver 79 = .ok (.iload_n 3, 1) := by decide +kernel
theorem dMo_deliver_80 : decode cMo_deliver 80 = .ok (.iaload, 1) := by decide +kernel
theorem dMo_deliver_81 : decode cMo_deliver 81 = .ok (.ifCond .ge 7, 3) := by decide +kernel
theorem dMo_deliver_84 : decode cMo_deliver 84 = .ok (.iconst (-1), 1) := by decide +kernel
theorem dMo_deliver_85 : decode cMo_deliver 85 = .ok (.goto 9, 3) := by decide +kernel
theorem dMo_deliver_88 : decode cMo_deliver 88 = .ok (.aload_n 0, 1) := by decide +kernel
theorem dMo_deliver_89 : decode cMo_deliver 89 = .ok (.getfield 13, 3) := by decide +kernel
theorem dMo_deliver_92 : decode cMo_deliver 92 = .ok (.iload_n 3, 1) := by decide +kernel
theorem dMo_deliver_93 : decode cMo_deliver 93 = .ok (.iaload, 1) := by decide +kernel
theorem dMo_deliver_94 : decode cMo_deliver 94 = .ok (.iastore, 1) := by decide +kernel
theorem dMo_deliver_95 : decode cMo_deliver 95 = .ok (.aload_n 0, 1) := by decide +kernel
theorem dMo_deliver_96 : decode cMo_deliver 96 = .ok (.getfield 16, 3) := by decide +kernel
theorem dMo_deliver_99 : decode cMo_deliver 99 = .ok (.iload_n 3, 1) := by decide +kernel
theorem dMo_deliver_100 : decode cMo_deliver 100 = .ok (.dup2, 1) := by decide +kernel
theorem dMo_deliver_101 : decode cMo_deliver 101 = .ok (.iaload, 1) := by decide +kernel
theorem dMo_deliver_102 : decode cMo_deliver 102 = .ok (.iconst 1, 1) := by decide +kernel
theorem dMo_deliver_103 : decode cMo_deliver 103 = .ok (.isub, 1) := by decide +kernel
theorem dMo_deliver_104 : decode cMo_deliver 104 = .ok (.iastore, 1) := by decide +kernel
theorem dMo_deliver_105 : decode cMo_deliver 105 = .ok (.aload_n 0, 1) := by decide +kernel
theorem dMo_deliver_106 : decode cMo_deliver 106 = .ok (.getfield 25, 3) := by decide +kernel
theorem dMo_deliver_109 : decode cMo_deliver 109 = .ok (.iload 4, 2) := by decide +kernel
theorem dMo_deliver_111 : decode cMo_deliver 111 = .ok (.aload_n 0, 1) := by decide +kernel
theorem dMo_deliver_112 : decode cMo_deliver 112 = .ok (.getfield 28, 3) := by decide +kernel
theorem dMo_deliver_115 : decode cMo_deliver 115 = .ok (.iastore, 1) := by decide +kernel
theorem dMo_deliver_116 : decode cMo_deliver 116 = .ok (.aload_n 0, 1) := by decide +kernel
theorem dMo_deliver_117 : decode cMo_deliver 117 = .ok (.iload 4, 2) := by decide +kernel
theorem dMo_deliver_119 : decode cMo_deliver 119 = .ok (.putfield 28, 3) := by decide +kernel
theorem dMo_deliver_122 : decode cMo_deliver 122 = .ok (.aload_n 0, 1) := by decide +kernel
theorem dMo_deliver_123 : decode cMo_deliver 123 = .ok (.getfield 19, 3) := by decide +kernel
theorem dMo_deliver_126 : decode cMo_deliver 126 = .ok (.iload 4, 2) := by decide +kernel
theorem dMo_deliver_128 : decode cMo_deliver 128 = .ok (.iaload, 1) := by decide +kernel
theorem dMo_deliver_129 : decode cMo_deliver 129 = .ok (.bipush 10, 2) := by decide +kernel
theorem dMo_deliver_131 : decode cMo_deliver 131 = .ok (.idiv, 1) := by decide +kernel
theorem dMo_deliver_132 : decode cMo_deliver 132 = .ok (.istore 5, 2) := by decide +kernel
theorem dMo_deliver_134 : decode cMo_deliver 134 = .ok (.aload_n 0, 1) := by decide +kernel
theorem dMo_deliver_135 : decode cMo_deliver 135 = .ok (.getfield 19, 3) := by decide +kernel
theorem dMo_deliver_138 : decode cMo_deliver 138 = .ok (.iload 4, 2) := by decide +kernel
theorem dMo_deliver_140 : decode cMo_deliver 140 = .ok (.iaload, 1) := by decide +kernel
theorem dMo_deliver_141 : decode cMo_deliver 141 = .ok (.bipush 10, 2) := by decide +kernel
theorem dMo_deliver_143 : decode cMo_deliver 143 = .ok (.irem, 1) := by decide +kernel
theorem dMo_deliver_144 : decode cMo_deliver 144 = .ok (.istore 6, 2) := by decide +kernel
theorem dMo_deliver_146 : decode cMo_deliver 146 = .ok (.aload_n 0, 1) := by decide +kernel
theorem dMo_deliver_147 : decode cMo_deliver 147 = .ok (.getfield 22, 3) := by decide +kernel
theorem dMo_deliver_150 : decode cMo_deliver 150 = .ok (.iload 4, 2) := by decide +kernel
theorem dMo_deliver_152 : decode cMo_deliver 152 = .ok (.iaload, 1) := by decide +kernel
theorem dMo_deliver_153 : decode cMo_deliver 153 = .ok (.istore 7, 2) := by decide +kernel
theorem dMo_deliver_155 : decode cMo_deliver 155 = .ok (.iload 5, 2) := by decide +kernel
theorem dMo_deliver_157 : decode cMo_deliver 157 = .ok (.tableswitch 80 0 3 #[31, 44, 57, 68], 31) := by decide +kernel
theorem dMo_deliver_188 : decode cMo_deliver 188 = .ok (.aload_n 0, 1) := by decide +kernel
theorem dMo_deliver_189 : decode cMo_deliver 189 = .ok (.iload_n 1, 1) := by decide +kernel
theorem dMo_deliver_190 : decode cMo_deliver 190 = .ok (.iload_n 2, 1) := by decide +kernel
theorem dMo_deliver_191 : decode cMo_deliver 191 = .ok (.iload 6, 2) := by decide +kernel
theorem dMo_deliver_193 : decode cMo_deliver 193 = .ok (.iload 7, 2) := by decide +kernel
theorem dMo_deliver_195 : decode cMo_deliver 195 = .ok (.invokevirtual 111, 3) := by decide +kernel
theorem dMo_deliver_198 : decode cMo_deliver 198 = .ok (.goto 47, 3) := by decide +kernel
theorem dMo_deliver_201 : decode cMo_deliver 201 = .ok (.aload_n 0, 1) := by decide +kernel
theorem dMo_deliver_202 : decode cMo_deliver 202 = .ok (.iload_n 1, 1) := by decide +kernel
theorem dMo_deliver_203 : decode cMo_deliver 203 = .ok (.iload_n 2, 1) := by decide +kernel
theorem dMo_deliver_204 : decode cMo_deliver 204 = .ok (.iload 6, 2) := by decide +kernel
theorem dMo_deliver_206 : decode cMo_deliver 206 = .ok (.iload 7, 2) := by decide +kernel
theorem dMo_deliver_208 : decode cMo_deliver 208 = .ok (.invokevirtual 115, 3) := by decide +kernel
theorem dMo_deliver_211 : decode cMo_deliver 211 = .ok (.goto 34, 3) := by decide +kernel
theorem dMo_deliver_214 : decode cMo_deliver 214 = .ok (.aload_n 0, 1) := by decide +kernel
theorem dMo_deliver_215 : decode cMo_deliver 215 = .ok (.iload_n 1, 1) := by decide +kernel
theorem dMo_deliver_216 : decode cMo_deliver 216 = .ok (.iload_n 2, 1) := by decide +kernel
theorem dMo_deliver_217 : decode cMo_deliver 217 = .ok (.iload 6, 2) := by decide +kernel
theorem dMo_deliver_219 : decode cMo_deliver 219 = .ok (.invokevirtual 118, 3) := by decide +kernel
theorem dMo_deliver_222 : decode cMo_deliver 222 = .ok (.goto 23, 3) := by decide +kernel
theorem dMo_deliver_225 : decode cMo_deliver 225 = .ok (.aload_n 0, 1) := by decide +kernel
theorem dMo_deliver_226 : decode cMo_deliver 226 = .ok (.iload_n 2, 1) := by decide +kernel
theorem dMo_deliver_227 : decode cMo_deliver 227 = .ok (.iload 6, 2) := by decide +kernel
theorem dMo_deliver_229 : decode cMo_deliver 229 = .ok (.iload 7, 2) := by decide +kernel
theorem dMo_deliver_231 : decode cMo_deliver 231 = .ok (.invokevirtual 122, 3) := by decide +kernel
theorem dMo_deliver_234 : decode cMo_deliver 234 = .ok (.goto 11, 3) := by decide +kernel
theorem dMo_deliver_237 : decode cMo_deliver 237 = .ok (.aload_n 0, 1) := by decide +kernel
theorem dMo_deliver_238 : decode cMo_deliver 238 = .ok (.iload_n 1, 1) := by decide +kernel
theorem dMo_deliver_239 : decode cMo_deliver 239 = .ok (.iload_n 2, 1) := by decide +kernel
theorem dMo_deliver_240 : decode cMo_deliver 240 = .ok (.iload 6, 2) := by decide +kernel
theorem dMo_deliver_242 : decode cMo_deliver 242 = .ok (.invokevirtual 125, 3) := by decide +kernel
theorem dMo_deliver_245 : decode cMo_deliver 245 = .ok (.iload 5, 2) := by decide +kernel
theorem dMo_deliver_247 : decode cMo_deliver 247 = .ok (.ireturn, 1) := by decide +kernel
theorem dMo_first_0 : decode cMo_first 0 = .ok (.aload_n 0, 1) := by decide +kernel
theorem dMo_first_1 : decode cMo_first 1 = .ok (.iload_n 1, 1) := by decide +kernel
theorem dMo_first_2 : decode cMo_first 2 = .ok (.iload_n 2, 1) := by decide +kernel
theorem dMo_first_3 : decode cMo_first 3 = .ok (.invokestatic 107, 3) := by decide +kernel
theorem dMo_first_6 : decode cMo_first 6 = .ok (.ifCond .eq 7, 3) := by decide +kernel
theorem dMo_first_9 : decode cMo_first 9 = .ok (.iconst 0, 1) := by decide +kernel
theorem dMo_first_10 : decode cMo_first 10 = .ok (.goto 4, 3) := by decide +kernel
theorem dMo_first_13 : decode cMo_first 13 = .ok (.iconst 1, 1) := by decide +kernel
theorem dMo_first_14 : decode cMo_first 14 = .ok (.putfield 90, 3) := by decide +kernel
theorem dMo_first_17 : decode cMo_first 17 = .ok (.aload_n 0, 1) := by decide +kernel
theorem dMo_first_18 : decode cMo_first 18 = .ok (.getfield 90, 3) := by decide +kernel
theorem dMo_first_21 : decode cMo_first 21 = .ok (.ifCond .eq 5, 3) := by decide +kernel
theorem dMo_first_24 : decode cMo_first 24 = .ok (.iconst 0, 1) := by decide +kernel
theorem dMo_first_25 : decode cMo_first 25 = .ok (.ireturn, 1) := by decide +kernel
theorem dMo_first_26 : decode cMo_first 26 = .ok (.iconst 4, 1) := by decide +kernel
theorem dMo_first_27 : decode cMo_first 27 = .ok (.iload_n 1, 1) := by decide +kernel
theorem dMo_first_28 : decode cMo_first 28 = .ok (.imul, 1) := by decide +kernel
theorem dMo_first_29 : decode cMo_first 29 = .ok (.iload_n 2, 1) := by decide +kernel
theorem dMo_first_30 : decode cMo_first 30 = .ok (.iadd, 1) := by decide +kernel
theorem dMo_first_31 : decode cMo_first 31 = .ok (.istore_n 3, 1) := by decide +kernel
theorem dMo_first_32 : decode cMo_first 32 = .ok (.aload_n 0, 1) := by decide +kernel
theorem dMo_first_33 : decode cMo_first 33 = .ok (.getfield 7, 3) := by decide +kernel
theorem dMo_first_36 : decode cMo_first 36 = .ok (.iload_n 3, 1) := by decide +kernel
theorem dMo_first_37 : decode cMo_first 37 = .ok (.iaload, 1) := by decide +kernel
theorem dMo_first_38 : decode cMo_first 38 = .ok (.istore 4, 2) := by decide +kernel
theorem dMo_first_40 : decode cMo_first 40 = .ok (.iload 4, 2) := by decide +kernel
theorem dMo_first_42 : decode cMo_first 42 = .ok (.ifCond .ge 7, 3) := by decide +kernel
theorem dMo_first_45 : decode cMo_first 45 = .ok (.iconst (-1), 1) := by decide +kernel
theorem dMo_first_46 : decode cMo_first 46 = .ok (.goto 46, 3) := by decide +kernel
theorem dMo_first_49 : decode cMo_first 49 = .ok (.bipush 100, 2) := by decide +kernel
theorem dMo_first_51 : decode cMo_first 51 = .ok (.aload_n 0, 1) := by decide +kernel
theorem dMo_first_52 : decode cMo_first 52 = .ok (.getfield 19, 3) := by decide +kernel
theorem dMo_first_55 : decode cMo_first 55 = .ok (.iload 4, 2) := by decide +kernel
theorem dMo_first_57 : decode cMo_first 57 = .ok (.iaload, 1) := by decide +kernel
theorem dMo_first_58 : decode cMo_first 58 = .ok (.bipush 10, 2) := by decide +kernel
theorem dMo_first_60 : decode cMo_first 60 = .ok (.idiv, 1) := by decide +kernel
theorem dMo_first_61 : decode cMo_first 61 = .ok (.imul, 1) := by decide +kernel
theorem dMo_first_62 : decode cMo_first 62 = .ok (.bipush 10, 2) := by decide +kernel
theorem dMo_first_64 : decode cMo_first 64 = .ok (.aload_n 0, 1) := by decide +kernel
theorem dMo_first_65 : decode cMo_first 65 = .ok (.getfield 19, 3) := by decide +kernel
theorem dMo_first_68 : decode cMo_first 68 = .ok (.iload 4, 2) := by decide +kernel
theorem dMo_first_70 : decode cMo_first 70 = .ok (.iaload, 1) := by decide +kernel
theorem dMo_first_71 : decode cMo_first 71 = .ok (.bipush 10, 2) := by decide +kernel
theorem dMo_first_73 : decode cMo_first 73 = .ok (.irem, 1) := by decide +kernel
theorem dMo_first_74 : decode cMo_first 74 = .ok (.imul, 1) := by decide +kernel
theorem dMo_first_75 : decode cMo_first 75 = .ok (.iadd, 1) := by decide +kernel
theorem dMo_first_76 : decode cMo_first 76 = .ok (.aload_n 0, 1) := by decide +kernel
theorem dMo_first_77 : decode cMo_first 77 = .ok (.getfield 16, 3) := by decide +kernel
theorem dMo_first_80 : decode cMo_first 80 = .ok (.iload_n 3, 1) := by decide +kernel
theorem dMo_first_81 : decode cMo_first 81 = .ok (.iaload, 1) := by decide +kernel
theorem dMo_first_82 : decode cMo_first 82 = .ok (.iconst 1, 1) := by decide +kernel
theorem dMo_first_83 : decode cMo_first 83 = .ok (.if_icmp .le 7, 3) := by decide +kernel
theorem dMo_first_86 : decode cMo_first 86 = .ok (.iconst 1, 1) := by decide +kernel
theorem dMo_first_87 : decode cMo_first 87 = .ok (.goto 4, 3) := by decide +kernel
theorem dMo_first_90 : decode cMo_first 90 = .ok (.iconst 0, 1) := by decide +kernel
theorem dMo_first_91 : decode cMo_first 91 = .ok (.iadd, 1) := by decide +kernel
theorem dMo_first_92 : decode cMo_first 92 = .ok (.ireturn, 1) := by decide +kernel
theorem dMo_waiting_0 : decode cMo_waiting 0 = .ok (.aload_n 0, 1) := by decide +kernel
theorem dMo_waiting_1 : decode cMo_waiting 1 = .ok (.iload_n 1, 1) := by decide +kernel
theorem dMo_waiting_2 : decode cMo_waiting 2 = .ok (.iload_n 2, 1) := by decide +kernel
theorem dMo_waiting_3 : decode cMo_waiting 3 = .ok (.invokestatic 107, 3) := by decide +kernel
theorem dMo_waiting_6 : decode cMo_waiting 6 = .ok (.ifCond .eq 7, 3) := by decide +kernel
theorem dMo_waiting_9 : decode cMo_waiting 9 = .ok (.iconst 0, 1) := by decide +kernel
theorem dMo_waiting_10 : decode cMo_waiting 10 = .ok (.goto 4, 3) := by decide +kernel
theorem dMo_waiting_13 : decode cMo_waiting 13 = .ok (.iconst 1, 1) := by decide +kernel
theorem dMo_waiting_14 : decode cMo_waiting 14 = .ok (.putfield 90, 3) := by decide +kernel
theorem dMo_waiting_17 : decode cMo_waiting 17 = .ok (.aload_n 0, 1) := by decide +kernel
theorem dMo_waiting_18 : decode cMo_waiting 18 = .ok (.getfield 90, 3) := by decide +kernel
theorem dMo_waiting_21 : decode cMo_waiting 21 = .ok (.ifCond .ne 16, 3) := by decide +kernel
theorem dMo_waiting_24 : decode cMo_waiting 24 = .ok (.aload_n 0, 1) := by decide +kernel
theorem dMo_waiting_25 : decode cMo_waiting 25 = .ok (.getfield 16, 3) := by decide +kernel
theorem dMo_waiting_28 : decode cMo_waiting 28 = .ok (.iconst 4, 1) := by decide +kernel
theorem dMo_waiting_29 : decode cMo_waiting 29 = .ok (.iload_n 1, 1) := by decide +kernel
theorem dMo_waiting_30 : decode cMo_waiting 30 = .ok (.imul, 1) := by decide +kernel
theorem dMo_waiting_31 : decode cMo_waiting 31 = .ok (.iload_n 2, 1) := by decide +kernel
theorem dMo_waiting_32 : decode cMo_waiting 32 = .ok (.iadd, 1) := by decide +kernel
theorem dMo_waiting_33 : decode cMo_waiting 33 = .ok (.iaload, 1) := by decide +kernel
theorem dMo_waiting_34 : decode cMo_waiting 34 = .ok (.goto 4, 3) := by decide +kernel
theorem dMo_waiting_37 : decode cMo_waiting 37 = .ok (.iconst 0, 1) := by decide +kernel
theorem dMo_waiting_38 : decode cMo_waiting 38 = .ok (.ireturn, 1) := by decide +kernel
theorem dMo_about_0 : decode cMo_about 0 = .ok (.aload_n 0, 1) := by decide +kernel
theorem dMo_about_1 : decode cMo_about 1 = .ok (.iload_n 1, 1) := by decide +kernel
theorem dMo_about_2 : decode cMo_about 2 = .ok (.iload_n 2, 1) := by decide +kernel
theorem dMo_about_3 : decode cMo_about 3 = .ok (.invokestatic 170, 3) := by decide +kernel
theorem dMo_about_6 : decode cMo_about 6 = .ok (.ifCond .eq 7, 3) := by decide +kernel
theorem dMo_about_9 : decode cMo_about 9 = .ok (.iconst 0, 1) := by decide +kernel
theorem dMo_about_10 : decode cMo_about 10 = .ok (.goto 4, 3) := by decide +kernel
theorem dMo_about_13 : decode cMo_about 13 = .ok (.iconst 1, 1) := by decide +kernel
theorem dMo_about_14 : decode cMo_about 14 = .ok (.putfield 90, 3) := by decide +kernel
theorem dMo_about_17 : decode cMo_about 17 = .ok (.aload_n 0, 1) := by decide +kernel
theorem dMo_about_18 : decode cMo_about 18 = .ok (.getfield 90, 3) := by decide +kernel
theorem dMo_about_21 : decode cMo_about 21 = .ok (.ifCond .eq 5, 3) := by decide +kernel
theorem dMo_about_24 : decode cMo_about 24 = .ok (.iconst 0, 1) := by decide +kernel
theorem dMo_about_25 : decode cMo_about 25 = .ok (.ireturn, 1) := by decide +kernel
theorem dMo_about_26 : decode cMo_about 26 = .ok (.iload_n 1, 1) := by decide +kernel
theorem dMo_about_27 : decode cMo_about 27 = .ok (.iconst 3, 1) := by decide +kernel
theorem dMo_about_28 : decode cMo_about 28 = .ok (.if_icmp .ge 14, 3) := by decide +kernel
theorem dMo_about_31 : decode cMo_about 31 = .ok (.aload_n 0, 1) := by decide +kernel
theorem dMo_about_32 : decode cMo_about 32 = .ok (.getfield 32, 3) := by decide +kernel
theorem dMo_about_35 : decode cMo_about 35 = .ok (.iconst 4, 1) := by decide +kernel
theorem dMo_about_36 : decode cMo_about 36 = .ok (.iload_n 1, 1) := by decide +kernel
theorem dMo_about_37 : decode cMo_about 37 = .ok (.imul, 1) := by decide +kernel
theorem dMo_about_38 : decode cMo_about 38 = .ok (.iload_n 2, 1) := by decide +kernel
theorem dMo_about_39 : decode cMo_about 39 = .ok (.iadd, 1) := by decide +kernel
theorem dMo_about_40 : decode cMo_about 40 = .ok (.iaload, 1) := by decide +kernel
theorem dMo_about_41 : decode cMo_about 41 = .ok (.ireturn, 1) := by decide +kernel
theorem dMo_about_42 : decode cMo_about 42 = .ok (.iload_n 1, 1) := by decide +kernel
theorem dMo_about_43 : decode cMo_about 43 = .ok (.iconst 3, 1) := by decide +kernel
theorem dMo_about_44 : decode cMo_about 44 = .ok (.if_icmp .ne 12, 3) := by decide +kernel
theorem dMo_about_47 : decode cMo_about 47 = .ok (.aload_n 0, 1) := by decide +kernel
theorem dMo_about_48 : decode cMo_about 48 = .ok (.getfield 72, 3) := by decide +kernel
theorem dMo_about_51 : decode cMo_about 51 = .ok (.iload_n 2, 1) := by decide +kernel
theorem dMo_about_52 : decode cMo_about 52 = .ok (.iaload, 1) := by decide +kernel
theorem dMo_about_53 : decode cMo_about 53 = .ok (.goto 49, 3) := by decide +kernel
theorem dMo_about_56 : decode cMo_about 56 = .ok (.aload_n 0, 1) := by decide +kernel
theorem dMo_about_57 : decode cMo_about 57 = .ok (.getfield 81, 3) := by decide +kernel
theorem dMo_about_60 : decode cMo_about 60 = .ok (.iload_n 2, 1) := by decide +kernel
theorem dMo_about_61 : decode cMo_about 61 = .ok (.baload, 1) := by decide +kernel
theorem dMo_about_62 : decode cMo_about 62 = .ok (.ifCond .eq 7, 3) := by decide +kernel
theorem dMo_about_65 : decode cMo_about 65 = .ok (.iconst 1, 1) := by decide +kernel
theorem dMo_about_66 : decode cMo_about 66 = .ok (.goto 4, 3) := by decide +kernel
theorem dMo_about_69 : decode cMo_about 69 = .ok (.iconst 0, 1) := by decide +kernel
theorem dMo_about_70 : decode cMo_about 70 = .ok (.aload_n 0, 1) := by decide +kernel
theorem dMo_about_71 : decode cMo_about 71 = .ok (.getfield 84, 3) := by decide +kernel
theorem dMo_about_74 : decode cMo_about 74 = .ok (.iload_n 2, 1) := by decide +kernel
theorem dMo_about_75 : decode cMo_about 75 = .ok (.iaload, 1) := by decide +kernel
theorem dMo_about_76 : decode cMo_about 76 = .ok (.ifCond .ge 11, 3) := by decide +kernel
theorem dMo_about_79 : decode cMo_about 79 = .ok (.aload_n 0, 1) := by decide +kernel
theorem dMo_about_80 : decode cMo_about 80 = .ok (.getfield 78, 3) := by decide +kernel
theorem dMo_about_83 : decode cMo_about 83 = .ok (.iload_n 2, 1) := by decide +kernel
theorem dMo_about_84 : decode cMo_about 84 = .ok (.if_icmp .ne 7, 3) := by decide +kernel
theorem dMo_about_87 : decode cMo_about 87 = .ok (.iconst 2, 1) := by decide +kernel
theorem dMo_about_88 : decode cMo_about 88 = .ok (.goto 4, 3) := by decide +kernel
theorem dMo_about_91 : decode cMo_about 91 = .ok (.iconst 0, 1) := by decide +kernel
theorem dMo_about_92 : decode cMo_about 92 = .ok (.iadd, 1) := by decide +kernel
theorem dMo_about_93 : decode cMo_about 93 = .ok (.iconst 4, 1) := by decide +kernel
theorem dMo_about_94 : decode cMo_about 94 = .ok (.aload_n 0, 1) := by decide +kernel
theorem dMo_about_95 : decode cMo_about 95 = .ok (.getfield 87, 3) := by decide +kernel
theorem dMo_about_98 : decode cMo_about 98 = .ok (.iload_n 2, 1) := by decide +kernel
theorem dMo_about_99 : decode cMo_about 99 = .ok (.iaload, 1) := by decide +kernel
theorem dMo_about_100 : decode cMo_about 100 = .ok (.imul, 1) := by decide +kernel
theorem dMo_about_101 : decode cMo_about 101 = .ok (.iadd, 1) := by decide +kernel
theorem dMo_about_102 : decode cMo_about 102 = .ok (.ireturn, 1) := by decide +kernel
theorem dMo_more_0 : decode cMo_more 0 = .ok (.aload_n 0, 1) := by decide +kernel
theorem dMo_more_1 : decode cMo_more 1 = .ok (.iload_n 1, 1) := by decide +kernel
theorem dMo_more_2 : decode cMo_more 2 = .ok (.iload_n 2, 1) := by decide +kernel
theorem dMo_more_3 : decode cMo_more 3 = .ok (.invokestatic 170, 3) := by decide +kernel
theorem dMo_more_6 : decode cMo_more 6 = .ok (.ifCond .eq 7, 3) := by decide +kernel
theorem dMo_more_9 : decode cMo_more 9 = .ok (.iconst 0, 1) := by decide +kernel
theorem dMo_more_10 : decode cMo_more 10 = .ok (.goto 4, 3) := by decide +kernel
theorem dMo_more_13 : decode cMo_more 13 = .ok (.iconst 1, 1) := by decide +kernel
theorem dMo_more_14 : decode cMo_more 14 = .ok (.putfield 90, 3) := by decide +kernel
theorem dMo_more_17 : decode cMo_more 17 = .ok (.aload_n 0, 1) := by decide +kernel
theorem dMo_more_18 : decode cMo_more 18 = .ok (.getfield 90, 3) := by decide +kernel
theorem dMo_more_21 : decode cMo_more 21 = .ok (.ifCond .eq 5, 3) := by decide +kernel
theorem dMo_more_24 : decode cMo_more 24 = .ok (.iconst 0, 1) := by decide +kernel
theorem dMo_more_25 : decode cMo_more 25 = .ok (.ireturn, 1) := by decide +kernel
theorem dMo_more_26 : decode cMo_more 26 = .ok (.iload_n 1, 1) := by decide +kernel
theorem dMo_more_27 : decode cMo_more 27 = .ok (.tableswitch 76 0 3 #[29, 36, 45, 52], 29) := by decide +kernel
theorem dMo_more_56 : decode cMo_more 56 = .ok (.aload_n 0, 1) := by decide +kernel
theorem dMo_more_57 : decode cMo_more 57 = .ok (.getfield 35, 3) := by decide +kernel
theorem dMo_more_60 : decode cMo_more 60 = .ok (.iload_n 2, 1) := by decide +kernel
theorem dMo_more_61 : decode cMo_more 61 = .ok (.iaload, 1) := by decide +kernel
theorem dMo_more_62 : decode cMo_more 62 = .ok (.ireturn, 1) := by decide +kernel
theorem dMo_more_63 : decode cMo_more 63 = .ok (.aload_n 0, 1) := by decide +kernel
theorem dMo_more_64 : decode cMo_more 64 = .ok (.getfield 47, 3) := by decide +kernel
theorem dMo_more_67 : decode cMo_more 67 = .ok (.iconst 5, 1) := by decide +kernel
theorem dMo_more_68 : decode cMo_more 68 = .ok (.iload_n 2, 1) := by decide +kernel
theorem dMo_more_69 : decode cMo_more 69 = .ok (.imul, 1) := by decide +kernel
theorem dMo_more_70 : decode cMo_more 70 = .ok (.iaload, 1) := by decide +kernel
theorem dMo_more_71 : decode cMo_more 71 = .ok (.ireturn, 1) := by decide +kernel
theorem dMo_more_72 : decode cMo_more 72 = .ok (.aload_n 0, 1) := by decide +kernel
theorem dMo_more_73 : decode cMo_more 73 = .ok (.getfield 56, 3) := by decide +kernel
theorem dMo_more_76 : decode cMo_more 76 = .ok (.iload_n 2, 1) := by decide +kernel
theorem dMo_more_77 : decode cMo_more 77 = .ok (.iaload, 1) := by decide +kernel
theorem dMo_more_78 : decode cMo_more 78 = .ok (.ireturn, 1) := by decide +kernel
theorem dMo_more_79 : decode cMo_more 79 = .ok (.aload_n 0, 1) := by decide +kernel
theorem dMo_more_80 : decode cMo_more 80 = .ok (.getfield 69, 3) := by decide +kernel
theorem dMo_more_83 : decode cMo_more 83 = .ok (.iload_n 2, 1) := by decide +kernel
theorem dMo_more_84 : decode cMo_more 84 = .ok (.iaload, 1) := by decide +kernel
theorem dMo_more_85 : decode cMo_more 85 = .ok (.aload_n 0, 1) := by decide +kernel
theorem dMo_more_86 : decode cMo_more 86 = .ok (.getfield 75, 3) := by decide +kernel
theorem dMo_more_89 : decode cMo_more 89 = .ok (.iload_n 2, 1) := by decide +kernel
theorem dMo_more_90 : decode cMo_more 90 = .ok (.baload, 1) := by decide +kernel
theorem dMo_more_91 : decode cMo_more 91 = .ok (.ifCond .eq 9, 3) := by decide +kernel
theorem dMo_more_94 : decode cMo_more 94 = .ok (.sipush 1000, 3) := by decide +kernel
theorem dMo_more_97 : decode cMo_more 97 = .ok (.goto 4, 3) := by decide +kernel
theorem dMo_more_100 : decode cMo_more 100 = .ok (.iconst 0, 1) := by decide +kernel
theorem dMo_more_101 : decode cMo_more 101 = .ok (.iadd, 1) := by decide +kernel
theorem dMo_more_102 : decode cMo_more 102 = .ok (.ireturn, 1) := by decide +kernel
theorem dMo_more_103 : decode cMo_more 103 = .ok (.aload_n 0, 1) := by decide +kernel
theorem dMo_more_104 : decode cMo_more 104 = .ok (.getfield 84, 3) := by decide +kernel
theorem dMo_more_107 : decode cMo_more 107 = .ok (.iload_n 2, 1) := by decide +kernel
theorem dMo_more_108 : decode cMo_more 108 = .ok (.iaload, 1) := by decide +kernel
theorem dMo_more_109 : decode cMo_more 109 = .ok (.ireturn, 1) := by decide +kernel
theorem dMo_count_0 : decode cMo_count 0 = .ok (.aload_n 0, 1) := by decide +kernel
theorem dMo_count_1 : decode cMo_count 1 = .ok (.iconst 0, 1) := by decide +kernel
theorem dMo_count_2 : decode cMo_count 2 = .ok (.putfield 90, 3) := by decide +kernel
theorem dMo_count_5 : decode cMo_count 5 = .ok (.iload_n 1, 1) := by decide +kernel
theorem dMo_count_6 : decode cMo_count 6 = .ok (.ifCond .ne 10, 3) := by decide +kernel
theorem dMo_count_9 : decode cMo_count 9 = .ok (.aload_n 0, 1) := by decide +kernel
theorem dMo_count_10 : decode cMo_count 10 = .ok (.getfield 128, 3) := by decide +kernel
theorem dMo_count_13 : decode cMo_count 13 = .ok (.goto 40, 3) := by decide +kernel
theorem dMo_count_16 : decode cMo_count 16 = .ok (.iload_n 1, 1) := by decide +kernel
theorem dMo_count_17 : decode cMo_count 17 = .ok (.iconst 1, 1) := by decide +kernel
theorem dMo_count_18 : decode cMo_count 18 = .ok (.if_icmp .ne 10, 3) := by decide +kernel
theorem dMo_count_21 : decode cMo_count 21 = .ok (.aload_n 0, 1) := by decide +kernel
theorem dMo_count_22 : decode cMo_count 22 = .ok (.getfield 96, 3) := by decide +kernel
theorem dMo_count_25 : decode cMo_count 25 = .ok (.goto 28, 3) := by decide +kernel
theorem dMo_count_28 : decode cMo_count 28 = .ok (.iload_n 1, 1) := by decide +kernel
theorem dMo_count_29 : decode cMo_count 29 = .ok (.iconst 2, 1) := by decide +kernel
theorem dMo_count_30 : decode cMo_count 30 = .ok (.if_icmp .ne 10, 3) := by decide +kernel
theorem dMo_count_33 : decode cMo_count 33 = .ok (.aload_n 0, 1) := by decide +kernel
theorem dMo_count_34 : decode cMo_count 34 = .ok (.getfield 164, 3) := by decide +kernel
theorem dMo_count_37 : decode cMo_count 37 = .ok (.goto 16, 3) := by decide +kernel
theorem dMo_count_40 : decode cMo_count 40 = .ok (.iload_n 1, 1) := by decide +kernel
theorem dMo_count_41 : decode cMo_count 41 = .ok (.iconst 3, 1) := by decide +kernel
theorem dMo_count_42 : decode cMo_count 42 = .ok (.if_icmp .ne 10, 3) := by decide +kernel
theorem dMo_count_45 : decode cMo_count 45 = .ok (.aload_n 0, 1) := by decide +kernel
theorem dMo_count_46 : decode cMo_count 46 = .ok (.getfield 78, 3) := by decide +kernel
theorem dMo_count_49 : decode cMo_count 49 = .ok (.goto 4, 3) := by decide +kernel
theorem dMo_count_52 : decode cMo_count 52 = .ok (.iconst (-1), 1) := by decide +kernel
theorem dMo_count_53 : decode cMo_count 53 = .ok (.ireturn, 1) := by decide +kernel
