theorem wm_262 : Cond.classLink "NodeServicesLaw" 13 "java/lang/IllegalArgumentException" ∈ wg := mem_wg (List.mem_append_right _ (List.mem_of_getElem? (i := 262) (by decide +kernel))) (by decide +kernel)
theorem wm_263 : Cond.classLink "NodeServicesLaw" 15 "java/lang/IllegalStateException" ∈ wg := mem_wg (List.mem_append_right _ (List.mem_of_getElem? (i := 263) (by decide +kernel))) (by decide +kernel)
theorem wm_264 : Cond.methodLink "NodeServicesLaw" 7 yNs_want ∈ wg := mem_wg (List.mem_append_right _ (List.mem_of_getElem? (i := 264) (by decide +kernel))) (by decide +kernel)
theorem wm_265 : Cond.instanceMethod yNs_want ∈ wg := mem_wg (List.mem_append_right _ (List.mem_of_getElem? (i := 265) (by decide +kernel))) (by decide +kernel)
theorem wm_266 : Cond.selects "NodeServices" yNs_want yNs_want ∈ wg := mem_wg (List.mem_append_right _ (List.mem_of_getElem? (i := 266) (by decide +kernel))) (by decide +kernel)
theorem wm_267 : Cond.code yNs_want cNs_want 3 none ∈ wg := mem_wg (List.mem_append_right _ (List.mem_of_getElem? (i := 267) (by decide +kernel))) (by decide +kernel)
theorem wm_467 : Cond.methodLink "NodeServicesLaw" 17 yNs_leave ∈ wg := mem_wg (List.mem_append_right _ (List.mem_of_getElem? (i := 467) (by decide +kernel))) (by decide +kernel)
theorem wm_468 : Cond.instanceMethod yNs_leave ∈ wg := mem_wg (List.mem_append_right _ (List.mem_of_getElem? (i := 468) (by decide +kernel))) (by decide +kernel)
theorem wm_469 : Cond.selects "NodeServices" yNs_leave yNs_leave ∈ wg := mem_wg (List.mem_append_right _ (List.mem_of_getElem? (i := 469) (by decide +kernel))) (by decide +kernel)
theorem wm_470 : Cond.code yNs_leave cNs_leave 3 none ∈ wg := mem_wg (List.mem_append_right _ (List.mem_of_getElem? (i := 470) (by decide +kernel))) (by decide +kernel)
theorem wm_508 : Cond.methodLink "NodeServicesLaw" 20 yNs_start ∈ wg := mem_wg (List.mem_append_right _ (List.mem_of_getElem? (i := 508) (by decide +kernel))) (by decide +kernel)
theorem wm_509 : Cond.instanceMethod yNs_start ∈ wg := mem_wg (List.mem_append_right _ (List.mem_of_getElem? (i := 509) (by decide +kernel))) (by decide +kernel)
theorem wm_510 : Cond.selects "NodeServices" yNs_start yNs_start ∈ wg := mem_wg (List.mem_append_right _ (List.mem_of_getElem? (i := 510) (by decide +kernel))) (by decide +kernel)
theorem wm_511 : Cond.code yNs_start cNs_start 2 none ∈ wg := mem_wg (List.mem_append_right _ (List.mem_of_getElem? (i := 511) (by decide +kernel))) (by decide +kernel)
theorem wm_527 : Cond.methodLink "NodeServicesLaw" 24 yNs_begin ∈ wg := mem_wg (List.mem_append_right _ (List.mem_of_getElem? (i := 527) (by decide +kernel))) (by decide +kernel)
theorem wm_528 : Cond.instanceMethod yNs_begin ∈ wg := mem_wg (List.mem_append_right _ (List.mem_of_getElem? (i := 528) (by decide +kernel))) (by decide +kernel)
theorem wm_529 : Cond.selects "NodeServices" yNs_begin yNs_begin ∈ wg := mem_wg (List.mem_append_right _ (List.mem_of_getElem? (i := 529) (by decide +kernel))) (by decide +kernel)
theorem wm_530 : Cond.code yNs_begin cNs_begin 2 none ∈ wg := mem_wg (List.mem_append_right _ (List.mem_of_getElem? (i := 530) (by decide +kernel))) (by decide +kernel)
theorem wm_547 : Cond.methodLink "NodeServicesLaw" 27 yNs_spread ∈ wg := mem_wg (List.mem_append_right _ (List.mem_of_getElem? (i := 547) (by decide +kernel))) (by decide +kernel)
theorem wm_548 : Cond.instanceMethod yNs_spread ∈ wg := mem_wg (List.mem_append_right _ (List.mem_of_getElem? (i := 548) (by decide +kernel))) (by decide +kernel)
theorem wm_549 : Cond.selects "NodeServices" yNs_spread yNs_spread ∈ wg := mem_wg (List.mem_append_right _ (List.mem_of_getElem? (i := 549) (by decide +kernel))) (by decide +kernel)
theorem wm_550 : Cond.code yNs_spread cNs_spread 3 none ∈ wg := mem_wg (List.mem_append_right _ (List.mem_of_getElem? (i := 550) (by decide +kernel))) (by decide +kernel)
theorem wm_570 : Cond.methodLink "NodeServicesLaw" 30 yNs_rest ∈ wg := mem_wg (List.mem_append_right _ (List.mem_of_getElem? (i := 570) (by decide +kernel))) (by decide +kernel)
theorem wm_571 : Cond.instanceMethod yNs_rest ∈ wg := mem_wg (List.mem_append_right _ (List.mem_of_getElem? (i := 571) (by decide +kernel))) (by decide +kernel)
theorem wm_572 : Cond.selects "NodeServices" yNs_rest yNs_rest ∈ wg := mem_wg (List.mem_append_right _ (List.mem_of_getElem? (i := 572) (by decide +kernel))) (by decide +kernel)
theorem wm_573 : Cond.code yNs_rest cNs_rest 2 none ∈ wg := mem_wg (List.mem_append_right _ (List.mem_of_getElem? (i := 573) (by decide +kernel))) (by decide +kernel)
theorem wm_586 : Cond.classLink "NodeServicesLaw" 37 "java/util/NoSuchElementException" ∈ wg := mem_wg (List.mem_append_right _ (List.mem_of_getElem? (i := 586) (by decide +kernel))) (by decide +kernel)
theorem wm_587 : Cond.methodLink "NodeServicesLaw" 33 yNs_deliver ∈ wg := mem_wg (List.mem_append_right _ (List.mem_of_getElem? (i := 587) (by decide +kernel))) (by decide +kernel)
theorem wm_588 : Cond.instanceMethod yNs_deliver ∈ wg := mem_wg (List.mem_append_right _ (List.mem_of_getElem? (i := 588) (by decide +kernel))) (by decide +kernel)
theorem wm_589 : Cond.selects "NodeServices" yNs_deliver yNs_deliver ∈ wg := mem_wg (List.mem_append_right _ (List.mem_of_getElem? (i := 589) (by decide +kernel))) (by decide +kernel)
theorem wm_590 : Cond.code yNs_deliver cNs_deliver 4 (some .int) ∈ wg := mem_wg (List.mem_append_right _ (List.mem_of_getElem? (i := 590) (by decide +kernel))) (by decide +kernel)
theorem wm_669 : Cond.methodLink "NodeServicesLaw" 39 yNs_first ∈ wg := mem_wg (List.mem_append_right _ (List.mem_of_getElem? (i := 669) (by decide +kernel))) (by decide +kernel)
theorem wm_670 : Cond.instanceMethod yNs_first ∈ wg := mem_wg (List.mem_append_right _ (List.mem_of_getElem? (i := 670) (by decide +kernel))) (by decide +kernel)
theorem wm_671 : Cond.selects "NodeServices" yNs_first yNs_first ∈ wg := mem_wg (List.mem_append_right _ (List.mem_of_getElem? (i := 671) (by decide +kernel))) (by decide +kernel)
theorem wm_672 : Cond.code yNs_first cNs_first 5 (some .int) ∈ wg := mem_wg (List.mem_append_right _ (List.mem_of_getElem? (i := 672) (by decide +kernel))) (by decide +kernel)
theorem wm_676 : Cond.methodLink "NodeServicesLaw" 42 yNs_waiting ∈ wg := mem_wg (List.mem_append_right _ (List.mem_of_getElem? (i := 676) (by decide +kernel))) (by decide +kernel)
theorem wm_677 : Cond.instanceMethod yNs_waiting ∈ wg := mem_wg (List.mem_append_right _ (List.mem_of_getElem? (i := 677) (by decide +kernel))) (by decide +kernel)
theorem wm_678 : Cond.selects "NodeServices" yNs_waiting yNs_waiting ∈ wg := mem_wg (List.mem_append_right _ (List.mem_of_getElem? (i := 678) (by decide +kernel))) (by decide +kernel)
theorem wm_679 : Cond.code yNs_waiting cNs_waiting 3 (some .int) ∈ wg := mem_wg (List.mem_append_right _ (List.mem_of_getElem? (i := 679) (by decide +kernel))) (by decide +kernel)
theorem wm_683 : Cond.methodLink "NodeServicesLaw" 45 yNs_about ∈ wg := mem_wg (List.mem_append_right _ (List.mem_of_getElem? (i := 683) (by decide +kernel))) (by decide +kernel)
theorem wm_684 : Cond.instanceMethod yNs_about ∈ wg := mem_wg (List.mem_append_right _ (List.mem_of_getElem? (i := 684) (by decide +kernel))) (by decide +kernel)
theorem wm_685 : Cond.selects "NodeServices" yNs_about yNs_about ∈ wg := mem_wg (List.mem_append_right _ (List.mem_of_getElem? (i := 685) (by decide +kernel))) (by decide +kernel)
theorem wm_686 : Cond.code yNs_about cNs_about 3 (some .int) ∈ wg := mem_wg (List.mem_append_right _ (List.mem_of_getElem? (i := 686) (by decide +kernel))) (by decide +kernel)
theorem wm_708 : Cond.methodLink "NodeServicesLaw" 48 yNs_more ∈ wg := mem_wg (List.mem_append_right _ (List.mem_of_getElem? (i := 708) (by decide +kernel))) (by decide +kernel)
theorem wm_709 : Cond.instanceMethod yNs_more ∈ wg := mem_wg (List.mem_append_right _ (List.mem_of_getElem? (i := 709) (by decide +kernel))) (by decide +kernel)
theorem wm_710 : Cond.selects "NodeServices" yNs_more yNs_more ∈ wg := mem_wg (List.mem_append_right _ (List.mem_of_getElem? (i := 710) (by decide +kernel))) (by decide +kernel)
theorem wm_711 : Cond.code yNs_more cNs_more 3 (some .int) ∈ wg := mem_wg (List.mem_append_right _ (List.mem_of_getElem? (i := 711) (by decide +kernel))) (by decide +kernel)
theorem dLw_want_0 : decode cLw_want 0 = .ok (.aload_n 0, 1) := by decide +kernel
theorem dLw_want_1 : decode cLw_want 1 = .ok (.iload_n 1, 1) := by decide +kernel
theorem dLw_want_2 : decode cLw_want 2 = .ok (.iload_n 2, 1) := by decide +kernel
theorem dLw_want_3 : decode cLw_want 3 = .ok (.invokevirtual 7, 3) := by decide +kernel
theorem dLw_want_6 : decode cLw_want 6 = .ok (.goto 9, 3) := by decide +kernel
theorem dLw_want_9 : decode cLw_want 9 = .ok (.astore_n 3, 1) := by decide +kernel
theorem dLw_want_10 : decode cLw_want 10 = .ok (.iconst 1, 1) := by decide +kernel
theorem dLw_want_11 : decode cLw_want 11 = .ok (.ireturn, 1) := by decide +kernel
theorem dLw_want_12 : decode cLw_want 12 = .ok (.astore_n 3, 1) := by decide +kernel
theorem dLw_want_13 : decode cLw_want 13 = .ok (.iconst 2, 1) := by decide +kernel
theorem dLw_want_14 : decode cLw_want 14 = .ok (.ireturn, 1) := by decide +kernel
theorem dLw_want_15 : decode cLw_want 15 = .ok (.iconst 0, 1) := by decide +kernel
theorem dLw_want_16 : decode cLw_want 16 = .ok (.ireturn, 1) := by decide +kernel
theorem dLw_leave_0 : decode cLw_leave 0 = .ok (.aload_n 0, 1) := by decide +kernel
theorem dLw_leave_1 : decode cLw_leave 1 = .ok (.iload_n 1, 1) := by decide +kernel
theorem dLw_leave_2 : decode cLw_leave 2 = .ok (.iload_n 2, 1) := by decide +kernel
theorem dLw_leave_3 : decode cLw_leave 3 = .ok (.invokevirtual 17, 3) := by decide +kernel
theorem dLw_leave_6 : decode cLw_leave 6 = .ok (.goto 9, 3) := by decide +kernel
theorem dLw_leave_9 : decode cLw_leave 9 = .ok (.astore_n 3, 1) := by decide +kernel
theorem dLw_leave_10 : decode cLw_leave 10 = .ok (.iconst 1, 1) := by decide +kernel
theorem dLw_leave_11 : decode cLw_leave 11 = .ok (.ireturn, 1) := by decide +kernel
theorem dLw_leave_12 : decode cLw_leave 12 = .ok (.astore_n 3, 1) := by decide +kernel
theorem dLw_leave_13 : decode cLw_leave 13 = .ok (.iconst 2, 1) := by decide +kernel
theorem dLw_leave_14 : decode cLw_leave 14 = .ok (.ireturn, 1) := by decide +kernel
theorem dLw_leave_15 : decode cLw_leave 15 = .ok (.iconst 0, 1) := by decide +kernel
theorem dLw_leave_16 : decode cLw_leave 16 = .ok (.ireturn, 1) := by decide +kernel
theorem dLw_start_0 : decode cLw_start 0 = .ok (.aload_n 0, 1) := by decide +kernel
theorem dLw_start_1 : decode cLw_start 1 = .ok (.iload_n 1, 1) := by decide +kernel
theorem dLw_start_2 : decode cLw_start 2 = .ok (.invokevirtual 20, 3) := by decide +kernel
theorem dLw_start_5 : decode cLw_start 5 = .ok (.goto 9, 3) := by decide +kernel
theorem dLw_start_8 : decode cLw_start 8 = .ok (.astore_n 2, 1) := by decide +kernel
theorem dLw_start_9 : decode cLw_start 9 = .ok (.iconst 1, 1) := by decide +kernel
theorem dLw_start_10 : decode cLw_start 10 = .ok (.ireturn, 1) := by decide +kernel
theorem dLw_start_11 : decode cLw_start 11 = .ok (.astore_n 2, 1) := by decide +kernel
theorem dLw_start_12 : decode cLw_start 12 = .ok (.iconst 2, 1) := by decide +kernel
theorem dLw_start_13 : decode cLw_start 13 = .ok (.ireturn, 1) := by decide +kernel
theorem dLw_start_14 : decode cLw_start 14 = .ok (.iconst 0, 1) := by decide +kernel
theorem dLw_start_15 : decode cLw_start 15 = .ok (.ireturn, 1) := by decide +kernel
theorem dLw_begin_0 : decode cLw_begin 0 = .ok (.aload_n 0, 1) := by decide +kernel
theorem dLw_begin_1 : decode cLw_begin 1 = .ok (.iload_n 1, 1) := by decide +kernel
theorem dLw_begin_2 : decode cLw_begin 2 = .ok (.invokevirtual 24, 3) := by decide +kernel
theorem dLw_begin_5 : decode cLw_begin 5 = .ok (.goto 9, 3) := by decide +kernel
theorem dLw_begin_8 : decode cLw_begin 8 = .ok (.astore_n 2, 1) := by decide +kernel
theorem dLw_begin_9 : decode cLw_begin 9 = .ok (.iconst 1, 1) := by decide +kernel
theorem dLw_begin_10 : decode cLw_begin 10 = .ok (.ireturn, 1) := by decide +kernel
theorem dLw_begin_11 : decode cLw_begin 11 = .ok (.astore_n 2, 1) := by decide +kernel
theorem dLw_begin_12 : decode cLw_begin 12 = .ok (.iconst 2, 1) := by decide +kernel
theorem dLw_begin_13 : decode cLw_begin 13 = .ok (.ireturn, 1) := by decide +kernel
theorem dLw_begin_14 : decode cLw_begin 14 = .ok (.iconst 0, 1) := by decide +kernel
theorem dLw_begin_15 : decode cLw_begin 15 = .ok (.ireturn, 1) := by decide +kernel
theorem dLw_spread_0 : decode cLw_spread 0 = .ok (.aload_n 0, 1) := by decide +kernel
theorem dLw_spread_1 : decode cLw_spread 1 = .ok (.iload_n 1, 1) := by decide +kernel
theorem dLw_spread_2 : decode cLw_spread 2 = .ok (.iload_n 2, 1) := by decide +kernel
theorem dLw_spread_3 : decode cLw_spread 3 = .ok (.invokevirtual 27, 3) := by decide +kernel
theorem dLw_spread_6 : decode cLw_spread 6 = .ok (.goto 9, 3) := by decide +kernel
theorem dLw_spread_9 : decode cLw_spread 9 = .ok (.astore_n 3, 1) := by decide +kernel
theorem dLw_spread_10 : decode cLw_spread 10 = .ok (.iconst 1, 1) := by decide +kernel
theorem dLw_spread_11 : decode cLw_spread 11 = .ok (.ireturn, 1) := by decide +kernel
theorem dLw_spread_12 : decode cLw_spread 12 = .ok (.astore_n 3, 1) := by decide +kernel
theorem dLw_spread_13 : decode cLw_spread 13 = .ok (.iconst 2, 1) := by decide +kernel
theorem dLw_spread_14 : decode cLw_spread 14 = .ok (.ireturn, 1) := by decide +kernel
theorem dLw_spread_15 : decode cLw_spread 15 = .ok (.iconst 0, 1) := by decide +kernel
theorem dLw_spread_16 : decode cLw_spread 16 = .ok (.ireturn, 1) := by decide +kernel
theorem dLw_rest_0 : decode cLw_rest 0 = .ok (.aload_n 0, 1) := by decide +kernel
theorem dLw_rest_1 : decode cLw_rest 1 = .ok (.iload_n 1, 1) := by decide +kernel
theorem dLw_rest_2 : decode cLw_rest 2 = .ok (.invokevirtual 30, 3) := by decide +kernel
theorem dLw_rest_5 : decode cLw_rest 5 = .ok (.goto 9, 3) := by decide +kernel
theorem dLw_rest_8 : decode cLw_rest 8 = .ok (.astore_n 2, 1) := by decide +kernel
theorem dLw_rest_9 : decode cLw_rest 9 = .ok (.iconst 1, 1) := by decide +kernel
theorem dLw_rest_10 : decode cLw_rest 10 = .ok (.ireturn, 1) := by decide +kernel
theorem dLw_rest_11 : decode cLw_rest 11 = .ok (.astore_n 2, 1) := by decide +kernel
theorem dLw_rest_12 : decode cLw_rest 12 = .ok (.iconst 2, 1) := by decide +kernel
theorem dLw_rest_13 : decode cLw_rest 13 = .ok (.ireturn, 1) := by decide +kernel
theorem dLw_rest_14 : decode cLw_rest 14 = .ok (.iconst 0, 1) := by decide +kernel
theorem dLw_rest_15 : decode cLw_rest 15 = .ok (.ireturn, 1) := by decide +kernel
theorem dLw_deliver_0 : decode cLw_deliver 0 = .ok (.aload_n 3, 1) := by decide +kernel
theorem dLw_deliver_1 : decode cLw_deliver 1 = .ok (.iconst 0, 1) := by decide +kernel
theorem dLw_deliver_2 : decode cLw_deliver 2 = .ok (.aload_n 0, 1) := by decide +kernel
theorem dLw_deliver_3 : decode cLw_deliver 3 = .ok (.iload_n 1, 1) := by decide +kernel
theorem dLw_deliver_4 : decode cLw_deliver 4 = .ok (.iload_n 2, 1) := by decide +kernel
theorem dLw_deliver_5 : decode cLw_deliver 5 = .ok (.invokevirtual 33, 3) := by decide +kernel
theorem dLw_deliver_8 : decode cLw_deliver 8 = .ok (.i2l, 1) := by decide +kernel
theorem dLw_deliver_9 : decode cLw_deliver 9 = .ok (.lastore, 1) := by decide +kernel
theorem dLw_deliver_10 : decode cLw_deliver 10 = .ok (.goto 11, 3) := by decide +kernel
theorem dLw_deliver_13 : decode cLw_deliver 13 = .ok (.astore 4, 2) := by decide +kernel
theorem dLw_deliver_15 : decode cLw_deliver 15 = .ok (.iconst 1, 1) := by decide +kernel
theorem dLw_deliver_16 : decode cLw_deliver 16 = .ok (.ireturn, 1) := by decide +kernel
theorem dLw_deliver_17 : decode cLw_deliver 17 = .ok (.astore 4, 2) := by decide +kernel
theorem dLw_deliver_19 : decode cLw_deliver 19 = .ok (.iconst 2, 1) := by decide +kernel
theorem dLw_deliver_20 : decode cLw_deliver 20 = .ok (.ireturn, 1) := by decide +kernel
theorem dLw_deliver_21 : decode cLw_deliver 21 = .ok (.iconst 0, 1) := by decide +kernel
theorem dLw_deliver_22 : decode cLw_deliver 22 = .ok (.ireturn, 1) := by decide +kernel
theorem dLw_first_0 : decode cLw_first 0 = .ok (.aload_n 3, 1) := by decide +kernel
theorem dLw_first_1 : decode cLw_first 1 = .ok (.iconst 0, 1) := by decide +kernel
theorem dLw_first_2 : decode cLw_first 2 = .ok (.aload_n 0, 1) := by decide +kernel
theorem dLw_first_3 : decode cLw_first 3 = .ok (.iload_n 1, 1) := by decide +kernel
theorem dLw_first_4 : decode cLw_first 4 = .ok (.iload_n 2, 1) := by decide +kernel
theorem dLw_first_5 : decode cLw_first 5 = .ok (.invokevirtual 39, 3) := by decide +kernel
theorem dLw_first_8 : decode cLw_first 8 = .ok (.i2l, 1) := by decide +kernel
theorem dLw_first_9 : decode cLw_first 9 = .ok (.lastore, 1) := by decide +kernel
theorem dLw_first_10 : decode cLw_first 10 = .ok (.goto 7, 3) := by decide +kernel
theorem dLw_first_13 : decode cLw_first 13 = .ok (.astore 4, 2) := by decide +kernel
theorem dLw_first_15 : decode cLw_first 15 = .ok (.iconst 1, 1) := by decide +kernel
theorem dLw_first_16 : decode cLw_first 16 = .ok (.ireturn, 1) := by decide +kernel
theorem dLw_first_17 : decode cLw_first 17 = .ok (.iconst 0, 1) := by decide +kernel
theorem dLw_first_18 : decode cLw_first 18 = .ok (.ireturn, 1) := by decide +kernel
theorem dLw_waiting_0 : decode cLw_waiting 0 = .ok (.aload_n 3, 1) := by decide +kernel
theorem dLw_waiting_1 : decode cLw_waiting 1 = .ok (.iconst 0, 1) := by decide +kernel
theorem dLw_waiting_2 : decode cLw_waiting 2 = .ok (.aload_n 0, 1) := by decide +kernel
theorem dLw_waiting_3 : decode cLw_waiting 3 = .ok (.iload_n 1, 1) := by decide +kernel
theorem dLw_waiting_4 : decode cLw_waiting 4 = .ok (.iload_n 2, 1) := by decide +kernel
theorem dLw_waiting_5 : decode cLw_waiting 5 = .ok (.invokevirtual 42, 3) := by decide +kernel
theorem dLw_waiting_8 : decode cLw_waiting 8 = .ok (.i2l, 1) := by decide +kernel
theorem dLw_waiting_9 : decode cLw_waiting 9 = .ok (.lastore, 1) := by decide +kernel
theorem dLw_waiting_10 : decode cLw_waiting 10 = .ok (.goto 7, 3) := by decide +kernel
theorem dLw_waiting_13 : decode cLw_waiting 13 = .ok (.astore 4, 2) := by decide +kernel
theorem dLw_waiting_15 : decode cLw_waiting 15 = .ok (.iconst 1, 1) := by decide +kernel
theorem dLw_waiting_16 : decode cLw_waiting 16 = .ok (.ireturn, 1) := by decide +kernel
theorem dLw_waiting_17 : decode cLw_waiting 17 = .ok (.iconst 0, 1) := by decide +kernel
theorem dLw_waiting_18 : decode cLw_waiting 18 = .ok (.ireturn, 1) := by decide +kernel
theorem dLw_about_0 : decode cLw_about 0 = .ok (.aload_n 3, 1) := by decide +kernel
theorem dLw_about_1 : decode cLw_about 1 = .ok (.iconst 0, 1) := by decide +kernel
theorem dLw_about_2 : decode cLw_about 2 = .ok (.aload_n 0, 1) := by decide +kernel
theorem dLw_about_3 : decode cLw_about 3 = .ok (.iload_n 1, 1) := by decide +kernel
theorem dLw_about_4 : decode cLw_about 4 = .ok (.iload_n 2, 1) := by decide +kernel
theorem dLw_about_5 : decode cLw_about 5 = .ok (.invokevirtual 45, 3) := by decide +kernel
theorem dLw_about_8 : decode cLw_about 8 = .ok (.i2l, 1) := by decide +kernel
theorem dLw_about_9 : decode cLw_about 9 = .ok (.lastore, 1) := by decide +kernel
theorem dLw_about_10 : decode cLw_about 10 = .ok (.goto 7, 3) := by decide +kernel
theorem dLw_about_13 : decode cLw_about 13 = .ok (.astore 4, 2) := by decide +kernel
theorem dLw_about_15 : decode cLw_about 15 = .ok (.iconst 1, 1) := by decide +kernel
theorem dLw_about_16 : decode cLw_about 16 = .ok (.ireturn, 1) := by decide +kernel
theorem dLw_about_17 : decode cLw_about 17 = .ok (.iconst 0, 1) := by decide +kernel
theorem dLw_about_18 : decode cLw_about 18 = .ok (.ireturn, 1) := by decide +kernel
theorem dLw_more_0 : decode cLw_more 0 = .ok (.aload_n 3, 1) := by decide +kernel
theorem dLw_more_1 : decode cLw_more 1 = .ok (.iconst 0, 1) := by decide +kernel
theorem dLw_more_2 : decode cLw_more 2 = .ok (.aload_n 0, 1) := by decide +kernel
theorem dLw_more_3 : decode cLw_more 3 = .ok (.iload_n 1, 1) := by decide +kernel
theorem dLw_more_4 : decode cLw_more 4 = .ok (.iload_n 2, 1) := by decide +kernel
theorem dLw_more_5 : decode cLw_more 5 = .ok (.invokevirtual 48, 3) := by decide +kernel
theorem dLw_more_8 : decode cLw_more 8 = .ok (.i2l, 1) := by decide +kernel
theorem dLw_more_9 : decode cLw_more 9 = .ok (.lastore, 1) := by decide +kernel
theorem dLw_more_10 : decode cLw_more 10 = .ok (.goto 7, 3) := by decide +kernel
theorem dLw_more_13 : decode cLw_more 13 = .ok (.astore 4, 2) := by decide +kernel
theorem dLw_more_15 : decode cLw_more 15 = .ok (.iconst 1, 1) := by decide +kernel
theorem dLw_more_16 : decode cLw_more 16 = .ok (.ireturn, 1) := by decide +kernel
theorem dLw_more_17 : decode cLw_more 17 = .ok (.iconst 0, 1) := by decide +kernel
theorem dLw_more_18 : decode cLw_more 18 = .ok (.ireturn, 1) := by decide +kernel
