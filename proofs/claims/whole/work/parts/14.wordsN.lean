theorem wm_1 : Cond.initialized "NodeServices" ∈ wg := mem_wg (List.mem_append_right _ (List.mem_of_getElem? (i := 1) (by decide +kernel))) (by decide +kernel)
theorem wm_17 : Cond.initialized "java/lang/IllegalArgumentException" ∈ wg := mem_wg (List.mem_append_right _ (List.mem_of_getElem? (i := 17) (by decide +kernel))) (by decide +kernel)
theorem wm_18 : Cond.initialized "java/lang/IllegalStateException" ∈ wg := mem_wg (List.mem_append_right _ (List.mem_of_getElem? (i := 18) (by decide +kernel))) (by decide +kernel)
theorem wm_20 : Cond.initialized "java/util/NoSuchElementException" ∈ wg := mem_wg (List.mem_append_right _ (List.mem_of_getElem? (i := 20) (by decide +kernel))) (by decide +kernel)
theorem wm_43 : Cond.fieldLink "NodeServices" 145 "NodeServices$Channel" "head" "LNodeServices$Message;" ∈ wg := mem_wg (List.mem_append_right _ (List.mem_of_getElem? (i := 43) (by decide +kernel))) (by decide +kernel)
theorem wm_46 : Cond.fieldLink "NodeServices" 155 "NodeServices$Channel" "size" "I" ∈ wg := mem_wg (List.mem_append_right _ (List.mem_of_getElem? (i := 46) (by decide +kernel))) (by decide +kernel)
theorem wm_56 : Cond.fieldLink "NodeServices" 172 "NodeServices$Network" "sent" "I" ∈ wg := mem_wg (List.mem_append_right _ (List.mem_of_getElem? (i := 56) (by decide +kernel))) (by decide +kernel)
theorem wm_81 : Cond.fieldLink "NodeServices" 62 "NodeServices$Lock" "state" "[I" ∈ wg := mem_wg (List.mem_append_right _ (List.mem_of_getElem? (i := 81) (by decide +kernel))) (by decide +kernel)
theorem wm_89 : Cond.fieldLink "NodeServices" 181 "NodeServices$Lock" "entries" "I" ∈ wg := mem_wg (List.mem_append_right _ (List.mem_of_getElem? (i := 89) (by decide +kernel))) (by decide +kernel)
theorem wm_191 : Cond.fieldLink "NodeServices" 81 "NodeServices$Election" "takesPart" "[Z" ∈ wg := mem_wg (List.mem_append_right _ (List.mem_of_getElem? (i := 191) (by decide +kernel))) (by decide +kernel)
theorem wm_210 : Cond.fieldLink "NodeServices" 103 "NodeServices$Work" "busy" "[Z" ∈ wg := mem_wg (List.mem_append_right _ (List.mem_of_getElem? (i := 210) (by decide +kernel))) (by decide +kernel)
theorem wm_212 : Cond.fieldLink "NodeServices" 178 "NodeServices$Work" "root" "I" ∈ wg := mem_wg (List.mem_append_right _ (List.mem_of_getElem? (i := 212) (by decide +kernel))) (by decide +kernel)
theorem wm_214 : Cond.fieldLink "NodeServices" 175 "NodeServices$Work" "ends" "I" ∈ wg := mem_wg (List.mem_append_right _ (List.mem_of_getElem? (i := 214) (by decide +kernel))) (by decide +kernel)
theorem wm_232 : Cond.fieldLink "NodeServices" 10 "NodeServices" "network" "LNodeServices$Network;" ∈ wg := mem_wg (List.mem_append_right _ (List.mem_of_getElem? (i := 232) (by decide +kernel))) (by decide +kernel)
theorem wm_233 : Cond.fieldLink "NodeServices" 18 "NodeServices" "locks" "[LNodeServices$Lock;" ∈ wg := mem_wg (List.mem_append_right _ (List.mem_of_getElem? (i := 233) (by decide +kernel))) (by decide +kernel)
theorem wm_234 : Cond.fieldLink "NodeServices" 38 "NodeServices" "election" "LNodeServices$Election;" ∈ wg := mem_wg (List.mem_append_right _ (List.mem_of_getElem? (i := 234) (by decide +kernel))) (by decide +kernel)
theorem wm_235 : Cond.fieldLink "NodeServices" 45 "NodeServices" "work" "LNodeServices$Work;" ∈ wg := mem_wg (List.mem_append_right _ (List.mem_of_getElem? (i := 235) (by decide +kernel))) (by decide +kernel)
theorem wm_236 : Cond.fieldLink "NodeServices" 51 "NodeServices" "services" "[LNodeServices$Service;" ∈ wg := mem_wg (List.mem_append_right _ (List.mem_of_getElem? (i := 236) (by decide +kernel))) (by decide +kernel)
theorem wm_252 : Cond.methodLink "NodeServices" 168 yNs_entriesOfAllLocks ∈ wg := mem_wg (List.mem_append_right _ (List.mem_of_getElem? (i := 252) (by decide +kernel))) (by decide +kernel)
theorem wm_254 : Cond.instanceMethod yNs_entriesOfAllLocks ∈ wg := mem_wg (List.mem_append_right _ (List.mem_of_getElem? (i := 254) (by decide +kernel))) (by decide +kernel)
theorem wm_255 : Cond.code yNs_entriesOfAllLocks cNs_entriesOfAllLocks 3 (some .int) ∈ wg := mem_wg (List.mem_append_right _ (List.mem_of_getElem? (i := 255) (by decide +kernel))) (by decide +kernel)
theorem wm_268 : Cond.methodLink "NodeServices" 55 yNs_requireLock ∈ wg := mem_wg (List.mem_append_right _ (List.mem_of_getElem? (i := 268) (by decide +kernel))) (by decide +kernel)
theorem wm_269 : Cond.static yNs_requireLock ∈ wg := mem_wg (List.mem_append_right _ (List.mem_of_getElem? (i := 269) (by decide +kernel))) (by decide +kernel)
theorem wm_270 : Cond.code yNs_requireLock cNs_requireLock 1 none ∈ wg := mem_wg (List.mem_append_right _ (List.mem_of_getElem? (i := 270) (by decide +kernel))) (by decide +kernel)
theorem wm_271 : Cond.classLink "NodeServices" 184 "java/lang/IllegalArgumentException" ∈ wg := mem_wg (List.mem_append_right _ (List.mem_of_getElem? (i := 271) (by decide +kernel))) (by decide +kernel)
theorem wm_339 : Cond.methodLink "NodeServices" 59 yNs_requireNode ∈ wg := mem_wg (List.mem_append_right _ (List.mem_of_getElem? (i := 339) (by decide +kernel))) (by decide +kernel)
theorem wm_340 : Cond.static yNs_requireNode ∈ wg := mem_wg (List.mem_append_right _ (List.mem_of_getElem? (i := 340) (by decide +kernel))) (by decide +kernel)
theorem wm_341 : Cond.code yNs_requireNode cNs_requireNode 1 none ∈ wg := mem_wg (List.mem_append_right _ (List.mem_of_getElem? (i := 341) (by decide +kernel))) (by decide +kernel)
theorem wm_343 : Cond.classLink "NodeServices" 66 "java/lang/IllegalStateException" ∈ wg := mem_wg (List.mem_append_right _ (List.mem_of_getElem? (i := 343) (by decide +kernel))) (by decide +kernel)
theorem wm_359 : Cond.methodLink "NodeServices" 73 ⟨"NodeServices$Lock", "ask", "(I)V"⟩ ∈ wg := mem_wg (List.mem_append_right _ (List.mem_of_getElem? (i := 359) (by decide +kernel))) (by decide +kernel)
theorem wm_361 : Cond.sameMethod "NodeServices$Lock" "NodeServices$Lock" "ask" "(I)V" ∈ wg := mem_wg (List.mem_append_right _ (List.mem_of_getElem? (i := 361) (by decide +kernel))) (by decide +kernel)
theorem wm_362 : Cond.selects "NodeServices$StampLock" ⟨"NodeServices$Lock", "ask", "(I)V"⟩ ySt_ask ∈ wg := mem_wg (List.mem_append_right _ (List.mem_of_getElem? (i := 362) (by decide +kernel))) (by decide +kernel)
theorem wm_363 : Cond.instanceMethod ySt_ask ∈ wg := mem_wg (List.mem_append_right _ (List.mem_of_getElem? (i := 363) (by decide +kernel))) (by decide +kernel)
theorem wm_364 : Cond.code ySt_ask cSt_ask 2 none ∈ wg := mem_wg (List.mem_append_right _ (List.mem_of_getElem? (i := 364) (by decide +kernel))) (by decide +kernel)
theorem wm_387 : Cond.fieldLink "NodeServices" 135 "NodeServices$Message" "service" "I" ∈ wg := mem_wg (List.mem_append_right _ (List.mem_of_getElem? (i := 387) (by decide +kernel))) (by decide +kernel)
theorem wm_394 : Cond.fieldLink "NodeServices" 152 "NodeServices$Message" "kind" "I" ∈ wg := mem_wg (List.mem_append_right _ (List.mem_of_getElem? (i := 394) (by decide +kernel))) (by decide +kernel)
theorem wm_400 : Cond.fieldLink "NodeServices" 149 "NodeServices$Message" "next" "LNodeServices$Message;" ∈ wg := mem_wg (List.mem_append_right _ (List.mem_of_getElem? (i := 400) (by decide +kernel))) (by decide +kernel)
theorem wm_422 : Cond.selects "NodeServices$TokenLock" ⟨"NodeServices$Lock", "ask", "(I)V"⟩ yTk_ask ∈ wg := mem_wg (List.mem_append_right _ (List.mem_of_getElem? (i := 422) (by decide +kernel))) (by decide +kernel)
theorem wm_423 : Cond.instanceMethod yTk_ask ∈ wg := mem_wg (List.mem_append_right _ (List.mem_of_getElem? (i := 423) (by decide +kernel))) (by decide +kernel)
theorem wm_424 : Cond.code yTk_ask cTk_ask 2 none ∈ wg := mem_wg (List.mem_append_right _ (List.mem_of_getElem? (i := 424) (by decide +kernel))) (by decide +kernel)
theorem wm_434 : Cond.selects "NodeServices$TreeLock" ⟨"NodeServices$Lock", "ask", "(I)V"⟩ yTr_ask ∈ wg := mem_wg (List.mem_append_right _ (List.mem_of_getElem? (i := 434) (by decide +kernel))) (by decide +kernel)
theorem wm_435 : Cond.instanceMethod yTr_ask ∈ wg := mem_wg (List.mem_append_right _ (List.mem_of_getElem? (i := 435) (by decide +kernel))) (by decide +kernel)
theorem wm_436 : Cond.code yTr_ask cTr_ask 2 none ∈ wg := mem_wg (List.mem_append_right _ (List.mem_of_getElem? (i := 436) (by decide +kernel))) (by decide +kernel)
theorem wm_472 : Cond.methodLink "NodeServices" 78 ⟨"NodeServices$Lock", "release", "(I)V"⟩ ∈ wg := mem_wg (List.mem_append_right _ (List.mem_of_getElem? (i := 472) (by decide +kernel))) (by decide +kernel)
theorem wm_474 : Cond.sameMethod "NodeServices$Lock" "NodeServices$Lock" "release" "(I)V" ∈ wg := mem_wg (List.mem_append_right _ (List.mem_of_getElem? (i := 474) (by decide +kernel))) (by decide +kernel)
theorem wm_475 : Cond.selects "NodeServices$StampLock" ⟨"NodeServices$Lock", "release", "(I)V"⟩ ySt_release ∈ wg := mem_wg (List.mem_append_right _ (List.mem_of_getElem? (i := 475) (by decide +kernel))) (by decide +kernel)
theorem wm_476 : Cond.instanceMethod ySt_release ∈ wg := mem_wg (List.mem_append_right _ (List.mem_of_getElem? (i := 476) (by decide +kernel))) (by decide +kernel)
theorem wm_477 : Cond.code ySt_release cSt_release 3 none ∈ wg := mem_wg (List.mem_append_right _ (List.mem_of_getElem? (i := 477) (by decide +kernel))) (by decide +kernel)
theorem wm_481 : Cond.selects "NodeServices$TokenLock" ⟨"NodeServices$Lock", "release", "(I)V"⟩ yTk_release ∈ wg := mem_wg (List.mem_append_right _ (List.mem_of_getElem? (i := 481) (by decide +kernel))) (by decide +kernel)
theorem wm_482 : Cond.instanceMethod yTk_release ∈ wg := mem_wg (List.mem_append_right _ (List.mem_of_getElem? (i := 482) (by decide +kernel))) (by decide +kernel)
theorem wm_483 : Cond.code yTk_release cTk_release 3 none ∈ wg := mem_wg (List.mem_append_right _ (List.mem_of_getElem? (i := 483) (by decide +kernel))) (by decide +kernel)
theorem wm_502 : Cond.selects "NodeServices$TreeLock" ⟨"NodeServices$Lock", "release", "(I)V"⟩ yTr_release ∈ wg := mem_wg (List.mem_append_right _ (List.mem_of_getElem? (i := 502) (by decide +kernel))) (by decide +kernel)
theorem wm_503 : Cond.instanceMethod yTr_release ∈ wg := mem_wg (List.mem_append_right _ (List.mem_of_getElem? (i := 503) (by decide +kernel))) (by decide +kernel)
theorem wm_504 : Cond.code yTr_release cTr_release 2 none ∈ wg := mem_wg (List.mem_append_right _ (List.mem_of_getElem? (i := 504) (by decide +kernel))) (by decide +kernel)
theorem wm_513 : Cond.methodLink "NodeServices" 87 yEl_stand ∈ wg := mem_wg (List.mem_append_right _ (List.mem_of_getElem? (i := 513) (by decide +kernel))) (by decide +kernel)
theorem wm_531 : Cond.methodLink "NodeServices" 90 yWk_isOver ∈ wg := mem_wg (List.mem_append_right _ (List.mem_of_getElem? (i := 531) (by decide +kernel))) (by decide +kernel)
theorem wm_532 : Cond.instanceMethod yWk_isOver ∈ wg := mem_wg (List.mem_append_right _ (List.mem_of_getElem? (i := 532) (by decide +kernel))) (by decide +kernel)
theorem wm_533 : Cond.selects "NodeServices$Work" yWk_isOver yWk_isOver ∈ wg := mem_wg (List.mem_append_right _ (List.mem_of_getElem? (i := 533) (by decide +kernel))) (by decide +kernel)
theorem wm_534 : Cond.code yWk_isOver cWk_isOver 2 (some .boolean) ∈ wg := mem_wg (List.mem_append_right _ (List.mem_of_getElem? (i := 534) (by decide +kernel))) (by decide +kernel)
theorem wm_540 : Cond.methodLink "NodeServices" 96 yWk_plant ∈ wg := mem_wg (List.mem_append_right _ (List.mem_of_getElem? (i := 540) (by decide +kernel))) (by decide +kernel)
theorem wm_541 : Cond.instanceMethod yWk_plant ∈ wg := mem_wg (List.mem_append_right _ (List.mem_of_getElem? (i := 541) (by decide +kernel))) (by decide +kernel)
theorem wm_542 : Cond.selects "NodeServices$Work" yWk_plant yWk_plant ∈ wg := mem_wg (List.mem_append_right _ (List.mem_of_getElem? (i := 542) (by decide +kernel))) (by decide +kernel)
theorem wm_543 : Cond.code yWk_plant cWk_plant 2 none ∈ wg := mem_wg (List.mem_append_right _ (List.mem_of_getElem? (i := 543) (by decide +kernel))) (by decide +kernel)
theorem wm_551 : Cond.methodLink "NodeServices" 99 yNs_requireChannel ∈ wg := mem_wg (List.mem_append_right _ (List.mem_of_getElem? (i := 551) (by decide +kernel))) (by decide +kernel)
theorem wm_552 : Cond.static yNs_requireChannel ∈ wg := mem_wg (List.mem_append_right _ (List.mem_of_getElem? (i := 552) (by decide +kernel))) (by decide +kernel)
theorem wm_553 : Cond.code yNs_requireChannel cNs_requireChannel 2 none ∈ wg := mem_wg (List.mem_append_right _ (List.mem_of_getElem? (i := 553) (by decide +kernel))) (by decide +kernel)
theorem wm_555 : Cond.methodLink "NodeServices" 106 yWk_hasMostUnanswered ∈ wg := mem_wg (List.mem_append_right _ (List.mem_of_getElem? (i := 555) (by decide +kernel))) (by decide +kernel)
theorem wm_556 : Cond.instanceMethod yWk_hasMostUnanswered ∈ wg := mem_wg (List.mem_append_right _ (List.mem_of_getElem? (i := 556) (by decide +kernel))) (by decide +kernel)
theorem wm_557 : Cond.selects "NodeServices$Work" yWk_hasMostUnanswered yWk_hasMostUnanswered ∈ wg := mem_wg (List.mem_append_right _ (List.mem_of_getElem? (i := 557) (by decide +kernel))) (by decide +kernel)
theorem wm_558 : Cond.code yWk_hasMostUnanswered cWk_hasMostUnanswered 2 (some .boolean) ∈ wg := mem_wg (List.mem_append_right _ (List.mem_of_getElem? (i := 558) (by decide +kernel))) (by decide +kernel)
theorem wm_560 : Cond.methodLink "NodeServices" 112 yWk_share ∈ wg := mem_wg (List.mem_append_right _ (List.mem_of_getElem? (i := 560) (by decide +kernel))) (by decide +kernel)
theorem wm_561 : Cond.instanceMethod yWk_share ∈ wg := mem_wg (List.mem_append_right _ (List.mem_of_getElem? (i := 561) (by decide +kernel))) (by decide +kernel)
theorem wm_562 : Cond.selects "NodeServices$Work" yWk_share yWk_share ∈ wg := mem_wg (List.mem_append_right _ (List.mem_of_getElem? (i := 562) (by decide +kernel))) (by decide +kernel)
theorem wm_563 : Cond.code yWk_share cWk_share 3 none ∈ wg := mem_wg (List.mem_append_right _ (List.mem_of_getElem? (i := 563) (by decide +kernel))) (by decide +kernel)
theorem wm_575 : Cond.methodLink "NodeServices" 117 yWk_pause ∈ wg := mem_wg (List.mem_append_right _ (List.mem_of_getElem? (i := 575) (by decide +kernel))) (by decide +kernel)
theorem wm_576 : Cond.instanceMethod yWk_pause ∈ wg := mem_wg (List.mem_append_right _ (List.mem_of_getElem? (i := 576) (by decide +kernel))) (by decide +kernel)
theorem wm_577 : Cond.selects "NodeServices$Work" yWk_pause yWk_pause ∈ wg := mem_wg (List.mem_append_right _ (List.mem_of_getElem? (i := 577) (by decide +kernel))) (by decide +kernel)
theorem wm_578 : Cond.code yWk_pause cWk_pause 2 none ∈ wg := mem_wg (List.mem_append_right _ (List.mem_of_getElem? (i := 578) (by decide +kernel))) (by decide +kernel)
theorem wm_591 : Cond.methodLink "NodeServices" 120 yNw_channel ∈ wg := mem_wg (List.mem_append_right _ (List.mem_of_getElem? (i := 591) (by decide +kernel))) (by decide +kernel)
theorem wm_592 : Cond.methodLink "NodeServices" 124 yCh_takeHead ∈ wg := mem_wg (List.mem_append_right _ (List.mem_of_getElem? (i := 592) (by decide +kernel))) (by decide +kernel)
theorem wm_593 : Cond.instanceMethod yCh_takeHead ∈ wg := mem_wg (List.mem_append_right _ (List.mem_of_getElem? (i := 593) (by decide +kernel))) (by decide +kernel)
theorem wm_594 : Cond.selects "NodeServices$Channel" yCh_takeHead yCh_takeHead ∈ wg := mem_wg (List.mem_append_right _ (List.mem_of_getElem? (i := 594) (by decide +kernel))) (by decide +kernel)
theorem wm_595 : Cond.code yCh_takeHead cCh_takeHead 2 (some (.object "NodeServices$Message")) ∈ wg := mem_wg (List.mem_append_right _ (List.mem_of_getElem? (i := 595) (by decide +kernel))) (by decide +kernel)
theorem wm_596 : Cond.classLink "NodeServices" 130 "java/util/NoSuchElementException" ∈ wg := mem_wg (List.mem_append_right _ (List.mem_of_getElem? (i := 596) (by decide +kernel))) (by decide +kernel)
theorem wm_612 : Cond.methodLink "NodeServices" 141 ⟨"NodeServices$Service", "receive", "(IILNodeServices$Message;)V"⟩ ∈ wg := mem_wg (List.mem_append_right _ (List.mem_of_getElem? (i := 612) (by decide +kernel))) (by decide +kernel)
theorem wm_614 : Cond.sameMethod "NodeServices$Service" "NodeServices$Service" "receive" "(IILNodeServices$Message;)V" ∈ wg := mem_wg (List.mem_append_right _ (List.mem_of_getElem? (i := 614) (by decide +kernel))) (by decide +kernel)
theorem wm_615 : Cond.selects "NodeServices$Election" ⟨"NodeServices$Service", "receive", "(IILNodeServices$Message;)V"⟩ yEl_receive ∈ wg := mem_wg (List.mem_append_right _ (List.mem_of_getElem? (i := 615) (by decide +kernel))) (by decide +kernel)
theorem wm_616 : Cond.instanceMethod yEl_receive ∈ wg := mem_wg (List.mem_append_right _ (List.mem_of_getElem? (i := 616) (by decide +kernel))) (by decide +kernel)
theorem wm_617 : Cond.code yEl_receive cEl_receive 4 none ∈ wg := mem_wg (List.mem_append_right _ (List.mem_of_getElem? (i := 617) (by decide +kernel))) (by decide +kernel)
theorem wm_627 : Cond.selects "NodeServices$StampLock" ⟨"NodeServices$Service", "receive", "(IILNodeServices$Message;)V"⟩ ySt_receive ∈ wg := mem_wg (List.mem_append_right _ (List.mem_of_getElem? (i := 627) (by decide +kernel))) (by decide +kernel)
theorem wm_628 : Cond.instanceMethod ySt_receive ∈ wg := mem_wg (List.mem_append_right _ (List.mem_of_getElem? (i := 628) (by decide +kernel))) (by decide +kernel)
theorem wm_629 : Cond.code ySt_receive cSt_receive 4 none ∈ wg := mem_wg (List.mem_append_right _ (List.mem_of_getElem? (i := 629) (by decide +kernel))) (by decide +kernel)
theorem wm_648 : Cond.selects "NodeServices$TokenLock" ⟨"NodeServices$Service", "receive", "(IILNodeServices$Message;)V"⟩ yTk_receive ∈ wg := mem_wg (List.mem_append_right _ (List.mem_of_getElem? (i := 648) (by decide +kernel))) (by decide +kernel)
theorem wm_649 : Cond.instanceMethod yTk_receive ∈ wg := mem_wg (List.mem_append_right _ (List.mem_of_getElem? (i := 649) (by decide +kernel))) (by decide +kernel)
theorem wm_650 : Cond.code yTk_receive cTk_receive 4 none ∈ wg := mem_wg (List.mem_append_right _ (List.mem_of_getElem? (i := 650) (by decide +kernel))) (by decide +kernel)
theorem wm_656 : Cond.selects "NodeServices$TreeLock" ⟨"NodeServices$Service", "receive", "(IILNodeServices$Message;)V"⟩ yTr_receive ∈ wg := mem_wg (List.mem_append_right _ (List.mem_of_getElem? (i := 656) (by decide +kernel))) (by decide +kernel)
theorem wm_657 : Cond.instanceMethod yTr_receive ∈ wg := mem_wg (List.mem_append_right _ (List.mem_of_getElem? (i := 657) (by decide +kernel))) (by decide +kernel)
theorem wm_658 : Cond.code yTr_receive cTr_receive 4 none ∈ wg := mem_wg (List.mem_append_right _ (List.mem_of_getElem? (i := 658) (by decide +kernel))) (by decide +kernel)
theorem wm_659 : Cond.selects "NodeServices$Work" ⟨"NodeServices$Service", "receive", "(IILNodeServices$Message;)V"⟩ yWk_receive ∈ wg := mem_wg (List.mem_append_right _ (List.mem_of_getElem? (i := 659) (by decide +kernel))) (by decide +kernel)
theorem wm_660 : Cond.instanceMethod yWk_receive ∈ wg := mem_wg (List.mem_append_right _ (List.mem_of_getElem? (i := 660) (by decide +kernel))) (by decide +kernel)
theorem wm_661 : Cond.code yWk_receive cWk_receive 4 none ∈ wg := mem_wg (List.mem_append_right _ (List.mem_of_getElem? (i := 661) (by decide +kernel))) (by decide +kernel)
theorem wm_687 : Cond.methodLink "NodeServices" 158 yNs_requireService ∈ wg := mem_wg (List.mem_append_right _ (List.mem_of_getElem? (i := 687) (by decide +kernel))) (by decide +kernel)
theorem wm_688 : Cond.static yNs_requireService ∈ wg := mem_wg (List.mem_append_right _ (List.mem_of_getElem? (i := 688) (by decide +kernel))) (by decide +kernel)
theorem wm_689 : Cond.code yNs_requireService cNs_requireService 1 none ∈ wg := mem_wg (List.mem_append_right _ (List.mem_of_getElem? (i := 689) (by decide +kernel))) (by decide +kernel)
theorem wm_691 : Cond.methodLink "NodeServices" 161 ⟨"NodeServices$Service", "condition", "(I)I"⟩ ∈ wg := mem_wg (List.mem_append_right _ (List.mem_of_getElem? (i := 691) (by decide +kernel))) (by decide +kernel)
theorem wm_693 : Cond.sameMethod "NodeServices$Service" "NodeServices$Service" "condition" "(I)I" ∈ wg := mem_wg (List.mem_append_right _ (List.mem_of_getElem? (i := 693) (by decide +kernel))) (by decide +kernel)
theorem wm_694 : Cond.selects "NodeServices$Election" ⟨"NodeServices$Service", "condition", "(I)I"⟩ yEl_condition ∈ wg := mem_wg (List.mem_append_right _ (List.mem_of_getElem? (i := 694) (by decide +kernel))) (by decide +kernel)
theorem wm_695 : Cond.instanceMethod yEl_condition ∈ wg := mem_wg (List.mem_append_right _ (List.mem_of_getElem? (i := 695) (by decide +kernel))) (by decide +kernel)
theorem wm_696 : Cond.code yEl_condition cEl_condition 2 (some .int) ∈ wg := mem_wg (List.mem_append_right _ (List.mem_of_getElem? (i := 696) (by decide +kernel))) (by decide +kernel)
theorem wm_697 : Cond.selects "NodeServices$StampLock" ⟨"NodeServices$Service", "condition", "(I)I"⟩ yLk_condition ∈ wg := mem_wg (List.mem_append_right _ (List.mem_of_getElem? (i := 697) (by decide +kernel))) (by decide +kernel)
theorem wm_698 : Cond.instanceMethod yLk_condition ∈ wg := mem_wg (List.mem_append_right _ (List.mem_of_getElem? (i := 698) (by decide +kernel))) (by decide +kernel)
theorem wm_699 : Cond.code yLk_condition cLk_condition 2 (some .int) ∈ wg := mem_wg (List.mem_append_right _ (List.mem_of_getElem? (i := 699) (by decide +kernel))) (by decide +kernel)
theorem wm_700 : Cond.selects "NodeServices$TokenLock" ⟨"NodeServices$Service", "condition", "(I)I"⟩ yLk_condition ∈ wg := mem_wg (List.mem_append_right _ (List.mem_of_getElem? (i := 700) (by decide +kernel))) (by decide +kernel)
theorem wm_701 : Cond.selects "NodeServices$TreeLock" ⟨"NodeServices$Service", "condition", "(I)I"⟩ yLk_condition ∈ wg := mem_wg (List.mem_append_right _ (List.mem_of_getElem? (i := 701) (by decide +kernel))) (by decide +kernel)
theorem wm_702 : Cond.selects "NodeServices$Work" ⟨"NodeServices$Service", "condition", "(I)I"⟩ yWk_condition ∈ wg := mem_wg (List.mem_append_right _ (List.mem_of_getElem? (i := 702) (by decide +kernel))) (by decide +kernel)
theorem wm_703 : Cond.instanceMethod yWk_condition ∈ wg := mem_wg (List.mem_append_right _ (List.mem_of_getElem? (i := 703) (by decide +kernel))) (by decide +kernel)
theorem wm_704 : Cond.code yWk_condition cWk_condition 2 (some .int) ∈ wg := mem_wg (List.mem_append_right _ (List.mem_of_getElem? (i := 704) (by decide +kernel))) (by decide +kernel)
theorem wm_712 : Cond.methodLink "NodeServices" 165 ⟨"NodeServices$Service", "detail", "(I)I"⟩ ∈ wg := mem_wg (List.mem_append_right _ (List.mem_of_getElem? (i := 712) (by decide +kernel))) (by decide +kernel)
theorem wm_714 : Cond.sameMethod "NodeServices$Service" "NodeServices$Service" "detail" "(I)I" ∈ wg := mem_wg (List.mem_append_right _ (List.mem_of_getElem? (i := 714) (by decide +kernel))) (by decide +kernel)
theorem wm_715 : Cond.selects "NodeServices$Election" ⟨"NodeServices$Service", "detail", "(I)I"⟩ yEl_detail ∈ wg := mem_wg (List.mem_append_right _ (List.mem_of_getElem? (i := 715) (by decide +kernel))) (by decide +kernel)
theorem wm_716 : Cond.instanceMethod yEl_detail ∈ wg := mem_wg (List.mem_append_right _ (List.mem_of_getElem? (i := 716) (by decide +kernel))) (by decide +kernel)
theorem wm_717 : Cond.code yEl_detail cEl_detail 2 (some .int) ∈ wg := mem_wg (List.mem_append_right _ (List.mem_of_getElem? (i := 717) (by decide +kernel))) (by decide +kernel)
theorem wm_718 : Cond.selects "NodeServices$StampLock" ⟨"NodeServices$Service", "detail", "(I)I"⟩ ySt_detail ∈ wg := mem_wg (List.mem_append_right _ (List.mem_of_getElem? (i := 718) (by decide +kernel))) (by decide +kernel)
theorem wm_719 : Cond.instanceMethod ySt_detail ∈ wg := mem_wg (List.mem_append_right _ (List.mem_of_getElem? (i := 719) (by decide +kernel))) (by decide +kernel)
theorem wm_720 : Cond.code ySt_detail cSt_detail 2 (some .int) ∈ wg := mem_wg (List.mem_append_right _ (List.mem_of_getElem? (i := 720) (by decide +kernel))) (by decide +kernel)
theorem wm_721 : Cond.selects "NodeServices$TokenLock" ⟨"NodeServices$Service", "detail", "(I)I"⟩ yTk_detail ∈ wg := mem_wg (List.mem_append_right _ (List.mem_of_getElem? (i := 721) (by decide +kernel))) (by decide +kernel)
theorem wm_722 : Cond.instanceMethod yTk_detail ∈ wg := mem_wg (List.mem_append_right _ (List.mem_of_getElem? (i := 722) (by decide +kernel))) (by decide +kernel)
theorem wm_723 : Cond.code yTk_detail cTk_detail 2 (some .int) ∈ wg := mem_wg (List.mem_append_right _ (List.mem_of_getElem? (i := 723) (by decide +kernel))) (by decide +kernel)
theorem wm_724 : Cond.selects "NodeServices$TreeLock" ⟨"NodeServices$Service", "detail", "(I)I"⟩ yTr_detail ∈ wg := mem_wg (List.mem_append_right _ (List.mem_of_getElem? (i := 724) (by decide +kernel))) (by decide +kernel)
theorem wm_725 : Cond.instanceMethod yTr_detail ∈ wg := mem_wg (List.mem_append_right _ (List.mem_of_getElem? (i := 725) (by decide +kernel))) (by decide +kernel)
theorem wm_726 : Cond.code yTr_detail cTr_detail 2 (some .int) ∈ wg := mem_wg (List.mem_append_right _ (List.mem_of_getElem? (i := 726) (by decide +kernel))) (by decide +kernel)
theorem wm_727 : Cond.selects "NodeServices$Work" ⟨"NodeServices$Service", "detail", "(I)I"⟩ yWk_detail ∈ wg := mem_wg (List.mem_append_right _ (List.mem_of_getElem? (i := 727) (by decide +kernel))) (by decide +kernel)
theorem wm_728 : Cond.instanceMethod yWk_detail ∈ wg := mem_wg (List.mem_append_right _ (List.mem_of_getElem? (i := 728) (by decide +kernel))) (by decide +kernel)
theorem wm_729 : Cond.code yWk_detail cWk_detail 2 (some .int) ∈ wg := mem_wg (List.mem_append_right _ (List.mem_of_getElem? (i := 729) (by decide +kernel))) (by decide +kernel)
theorem wp_0 : Cond.selects "NodeServices" yNs_entriesOfAllLocks yNs_entriesOfAllLocks ∈ wg := mem_wg (List.mem_append_left _ (List.mem_of_getElem? (i := 0) (by decide +kernel))) (by decide +kernel)
theorem dNs_requireLock_0 : decode cNs_requireLock 0 = .ok (.iload_n 0, 1) := by decide +kernel
theorem dNs_requireLock_1 : decode cNs_requireLock 1 = .ok (.ifCond .lt 8, 3) := by decide +kernel
theorem dNs_requireLock_4 : decode cNs_requireLock 4 = .ok (.iload_n 0, 1) := by decide +kernel
theorem dNs_requireLock_5 : decode cNs_requireLock 5 = .ok (.iconst 3, 1) := by decide +kernel
theorem dNs_requireLock_6 : decode cNs_requireLock 6 = .ok (.if_icmp .lt 13, 3) := by decide +kernel
theorem dNs_requireLock_9 : decode cNs_requireLock 9 = .ok (.new 184, 3) := by decide +kernel
theorem dNs_requireLock_12 : decode cNs_requireLock 12 = .ok (.dup, 1) := by decide +kernel
theorem dNs_requireLock_13 : decode cNs_requireLock 13 = .ok (.ldc 186, 2) := by decide +kernel
theorem dNs_requireLock_15 : decode cNs_requireLock 15 = .ok (.invokespecial 188, 3) := by decide +kernel
theorem dNs_requireLock_18 : decode cNs_requireLock 18 = .ok (.athrow, 1) := by decide +kernel
theorem dNs_requireLock_19 : decode cNs_requireLock 19 = .ok (.return_, 1) := by decide +kernel
theorem dNs_requireService_0 : decode cNs_requireService 0 = .ok (.iload_n 0, 1) := by decide +kernel
theorem dNs_requireService_1 : decode cNs_requireService 1 = .ok (.ifCond .lt 8, 3) := by decide +kernel
theorem dNs_requireService_4 : decode cNs_requireService 4 = .ok (.iload_n 0, 1) := by decide +kernel
theorem dNs_requireService_5 : decode cNs_requireService 5 = .ok (.iconst 5, 1) := by decide +kernel
theorem dNs_requireService_6 : decode cNs_requireService 6 = .ok (.if_icmp .lt 13, 3) := by decide +kernel
theorem dNs_requireService_9 : decode cNs_requireService 9 = .ok (.new 184, 3) := by decide +kernel
theorem dNs_requireService_12 : decode cNs_requireService 12 = .ok (.dup, 1) := by decide +kernel
theorem dNs_requireService_13 : decode cNs_requireService 13 = .ok (.ldc 189, 2) := by decide +kernel
theorem dNs_requireService_15 : decode cNs_requireService 15 = .ok (.invokespecial 188, 3) := by decide +kernel
theorem dNs_requireService_18 : decode cNs_requireService 18 = .ok (.athrow, 1) := by decide +kernel
theorem dNs_requireService_19 : decode cNs_requireService 19 = .ok (.return_, 1) := by decide +kernel
theorem dNs_requireNode_0 : decode cNs_requireNode 0 = .ok (.iload_n 0, 1) := by decide +kernel
theorem dNs_requireNode_1 : decode cNs_requireNode 1 = .ok (.ifCond .lt 8, 3) := by decide +kernel
theorem dNs_requireNode_4 : decode cNs_requireNode 4 = .ok (.iload_n 0, 1) := by decide +kernel
theorem dNs_requireNode_5 : decode cNs_requireNode 5 = .ok (.iconst 4, 1) := by decide +kernel
theorem dNs_requireNode_6 : decode cNs_requireNode 6 = .ok (.if_icmp .lt 13, 3) := by decide +kernel
theorem dNs_requireNode_9 : decode cNs_requireNode 9 = .ok (.new 184, 3) := by decide +kernel
theorem dNs_requireNode_12 : decode cNs_requireNode 12 = .ok (.dup, 1) := by decide +kernel
theorem dNs_requireNode_13 : decode cNs_requireNode 13 = .ok (.ldc 191, 2) := by decide +kernel
theorem dNs_requireNode_15 : decode cNs_requireNode 15 = .ok (.invokespecial 188, 3) := by decide +kernel
theorem dNs_requireNode_18 : decode cNs_requireNode 18 = .ok (.athrow, 1) := by decide +kernel
theorem dNs_requireNode_19 : decode cNs_requireNode 19 = .ok (.return_, 1) := by decide +kernel
theorem dNs_requireChannel_0 : decode cNs_requireChannel 0 = .ok (.iload_n 0, 1) := by decide +kernel
theorem dNs_requireChannel_1 : decode cNs_requireChannel 1 = .ok (.invokestatic 59, 3) := by decide +kernel
theorem dNs_requireChannel_4 : decode cNs_requireChannel 4 = .ok (.iload_n 1, 1) := by decide +kernel
theorem dNs_requireChannel_5 : decode cNs_requireChannel 5 = .ok (.invokestatic 59, 3) := by decide +kernel
theorem dNs_requireChannel_8 : decode cNs_requireChannel 8 = .ok (.iload_n 0, 1) := by decide +kernel
theorem dNs_requireChannel_9 : decode cNs_requireChannel 9 = .ok (.iload_n 1, 1) := by decide +kernel
theorem dNs_requireChannel_10 : decode cNs_requireChannel 10 = .ok (.if_icmp .ne 13, 3) := by decide +kernel
theorem dNs_requireChannel_13 : decode cNs_requireChannel 13 = .ok (.new 184, 3) := by decide +kernel
theorem dNs_requireChannel_16 : decode cNs_requireChannel 16 = .ok (.dup, 1) := by decide +kernel
theorem dNs_requireChannel_17 : decode cNs_requireChannel 17 = .ok (.ldc 193, 2) := by decide +kernel
theorem dNs_requireChannel_19 : decode cNs_requireChannel 19 = .ok (.invokespecial 188, 3) := by decide +kernel
theorem dNs_requireChannel_22 : decode cNs_requireChannel 22 = .ok (.athrow, 1) := by decide +kernel
theorem dNs_requireChannel_23 : decode cNs_requireChannel 23 = .ok (.return_, 1) := by decide +kernel
theorem dNs_entriesOfAllLocks_0 : decode cNs_entriesOfAllLocks 0 = .ok (.iconst 0, 1) := by decide +kernel
theorem dNs_entriesOfAllLocks_1 : decode cNs_entriesOfAllLocks 1 = .ok (.istore_n 1, 1) := by decide +kernel
theorem dNs_entriesOfAllLocks_2 : decode cNs_entriesOfAllLocks 2 = .ok (.iconst 0, 1) := by decide +kernel
theorem dNs_entriesOfAllLocks_3 : decode cNs_entriesOfAllLocks 3 = .ok (.istore_n 2, 1) := by decide +kernel
theorem dNs_entriesOfAllLocks_4 : decode cNs_entriesOfAllLocks 4 = .ok (.iload_n 2, 1) := by decide +kernel
theorem dNs_entriesOfAllLocks_5 : decode cNs_entriesOfAllLocks 5 = .ok (.iconst 3, 1) := by decide +kernel
theorem dNs_entriesOfAllLocks_6 : decode cNs_entriesOfAllLocks 6 = .ok (.if_icmp .ge 21, 3) := by decide +kernel
theorem dNs_entriesOfAllLocks_9 : decode cNs_entriesOfAllLocks 9 = .ok (.iload_n 1, 1) := by decide +kernel
theorem dNs_entriesOfAllLocks_10 : decode cNs_entriesOfAllLocks 10 = .ok (.aload_n 0, 1) := by decide +kernel
theorem dNs_entriesOfAllLocks_11 : decode cNs_entriesOfAllLocks 11 = .ok (.getfield 18, 3) := by decide +kernel
theorem dNs_entriesOfAllLocks_14 : decode cNs_entriesOfAllLocks 14 = .ok (.iload_n 2, 1) := by decide +kernel
theorem dNs_entriesOfAllLocks_15 : decode cNs_entriesOfAllLocks 15 = .ok (.aaload, 1) := by decide +kernel
theorem dNs_entriesOfAllLocks_16 : decode cNs_entriesOfAllLocks 16 = .ok (.getfield 181, 3) := by decide +kernel
theorem dNs_entriesOfAllLocks_19 : decode cNs_entriesOfAllLocks 19 = .ok (.iadd, 1) := by decide +kernel
theorem dNs_entriesOfAllLocks_20 : decode cNs_entriesOfAllLocks 20 = .ok (.istore_n 1, 1) := by decide +kernel
theorem dNs_entriesOfAllLocks_21 : decode cNs_entriesOfAllLocks 21 = .ok (.iinc 2 1, 3) := by decide +kernel
theorem dNs_entriesOfAllLocks_24 : decode cNs_entriesOfAllLocks 24 = .ok (.goto (-20), 3) := by decide +kernel
theorem dNs_entriesOfAllLocks_27 : decode cNs_entriesOfAllLocks 27 = .ok (.iload_n 1, 1) := by decide +kernel
theorem dNs_entriesOfAllLocks_28 : decode cNs_entriesOfAllLocks 28 = .ok (.ireturn, 1) := by decide +kernel
theorem dNs_count_0 : decode cNs_count 0 = .ok (.iload_n 1, 1) := by decide +kernel
theorem dNs_count_1 : decode cNs_count 1 = .ok (.tableswitch 60 0 3 #[31, 36, 44, 52], 31) := by decide +kernel
theorem dNs_count_32 : decode cNs_count 32 = .ok (.aload_n 0, 1) := by decide +kernel
theorem dNs_count_33 : decode cNs_count 33 = .ok (.invokevirtual 168, 3) := by decide +kernel
theorem dNs_count_36 : decode cNs_count 36 = .ok (.ireturn, 1) := by decide +kernel
theorem dNs_count_37 : decode cNs_count 37 = .ok (.aload_n 0, 1) := by decide +kernel
theorem dNs_count_38 : decode cNs_count 38 = .ok (.getfield 10, 3) := by decide +kernel
theorem dNs_count_41 : decode cNs_count 41 = .ok (.getfield 172, 3) := by decide +kernel
theorem dNs_count_44 : decode cNs_count 44 = .ok (.ireturn, 1) := by decide +kernel
theorem dNs_count_45 : decode cNs_count 45 = .ok (.aload_n 0, 1) := by decide +kernel
theorem dNs_count_46 : decode cNs_count 46 = .ok (.getfield 45, 3) := by decide +kernel
theorem dNs_count_49 : decode cNs_count 49 = .ok (.getfield 175, 3) := by decide +kernel
theorem dNs_count_52 : decode cNs_count 52 = .ok (.ireturn, 1) := by decide +kernel
theorem dNs_count_53 : decode cNs_count 53 = .ok (.aload_n 0, 1) := by decide +kernel
theorem dNs_count_54 : decode cNs_count 54 = .ok (.getfield 45, 3) := by decide +kernel
theorem dNs_count_57 : decode cNs_count 57 = .ok (.getfield 178, 3) := by decide +kernel
theorem dNs_count_60 : decode cNs_count 60 = .ok (.ireturn, 1) := by decide +kernel
theorem dNs_count_61 : decode cNs_count 61 = .ok (.iconst (-1), 1) := by decide +kernel
theorem dNs_count_62 : decode cNs_count 62 = .ok (.ireturn, 1) := by decide +kernel
theorem dNs_want_0 : decode cNs_want 0 = .ok (.iload_n 1, 1) := by decide +kernel
theorem dNs_want_1 : decode cNs_want 1 = .ok (.invokestatic 55, 3) := by decide +kernel
theorem dNs_want_4 : decode cNs_want 4 = .ok (.iload_n 2, 1) := by decide +kernel
theorem dNs_want_5 : decode cNs_want 5 = .ok (.invokestatic 59, 3) := by decide +kernel
theorem dNs_want_8 : decode cNs_want 8 = .ok (.aload_n 0, 1) := by decide +kernel
theorem dNs_want_9 : decode cNs_want 9 = .ok (.getfield 18, 3) := by decide +kernel
theorem dNs_want_12 : decode cNs_want 12 = .ok (.iload_n 1, 1) := by decide +kernel
theorem dNs_want_13 : decode cNs_want 13 = .ok (.aaload, 1) := by decide +kernel
theorem dNs_want_14 : decode cNs_want 14 = .ok (.getfield 62, 3) := by decide +kernel
theorem dNs_want_17 : decode cNs_want 17 = .ok (.iload_n 2, 1) := by decide +kernel
theorem dNs_want_18 : decode cNs_want 18 = .ok (.iaload, 1) := by decide +kernel
theorem dNs_want_19 : decode cNs_want 19 = .ok (.ifCond .eq 13, 3) := by decide +kernel
theorem dNs_want_22 : decode cNs_want 22 = .ok (.new 66, 3) := by decide +kernel
theorem dNs_want_25 : decode cNs_want 25 = .ok (.dup, 1) := by decide +kernel
theorem dNs_want_26 : decode cNs_want 26 = .ok (.ldc 68, 2) := by decide +kernel
theorem dNs_want_28 : decode cNs_want 28 = .ok (.invokespecial 70, 3) := by decide +kernel
theorem dNs_want_31 : decode cNs_want 31 = .ok (.athrow, 1) := by decide +kernel
theorem dNs_want_32 : decode cNs_want 32 = .ok (.aload_n 0, 1) := by decide +kernel
theorem dNs_want_33 : decode cNs_want 33 = .ok (.getfield 18, 3) := by decide +kernel
theorem dNs_want_36 : decode cNs_want 36 = .ok (.iload_n 1, 1) := by decide +kernel
theorem dNs_want_37 : decode cNs_want 37 = .ok (.aaload, 1) := by decide +kernel
theorem dNs_want_38 : decode cNs_want 38 = .ok (.iload_n 2, 1) := by decide +kernel
theorem dNs_want_39 : decode cNs_want 39 = .ok (.invokevirtual 73, 3) := by decide +kernel
theorem dNs_want_42 : decode cNs_want 42 = .ok (.return_, 1) := by decide +kernel
theorem dNs_leave_0 : decode cNs_leave 0 = .ok (.iload_n 1, 1) := by decide +kernel
theorem dNs_leave_1 : decode cNs_leave 1 = .ok (.invokestatic 55, 3) := by decide +kernel
theorem dNs_leave_4 : decode cNs_leave 4 = .ok (.iload_n 2, 1) := by decide +kernel
theorem dNs_leave_5 : decode cNs_leave 5 = .ok (.invokestatic 59, 3) := by decide +kernel
theorem dNs_leave_8 : decode cNs_leave 8 = .ok (.aload_n 0, 1) := by decide +kernel
theorem dNs_leave_9 : decode cNs_leave 9 = .ok (.getfield 18, 3) := by decide +kernel
theorem dNs_leave_12 : decode cNs_leave 12 = .ok (.iload_n 1, 1) := by decide +kernel
theorem dNs_leave_13 : decode cNs_leave 13 = .ok (.aaload, 1) := by decide +kernel
theorem dNs_leave_14 : decode cNs_leave 14 = .ok (.getfield 62, 3) := by decide +kernel
theorem dNs_leave_17 : decode cNs_leave 17 = .ok (.iload_n 2, 1) := by decide +kernel
theorem dNs_leave_18 : decode cNs_leave 18 = .ok (.iaload, 1) := by decide +kernel
theorem dNs_leave_19 : decode cNs_leave 19 = .ok (.iconst 2, 1) := by decide +kernel
theorem dNs_leave_20 : decode cNs_leave 20 = .ok (.if_icmp .eq 13, 3) := by decide +kernel
theorem dNs_leave_23 : decode cNs_leave 23 = .ok (.new 66, 3) := by decide +kernel
theorem dNs_leave_26 : decode cNs_leave 26 = .ok (.dup, 1) := by decide +kernel
theorem dNs_leave_27 : decode cNs_leave 27 = .ok (.ldc 76, 2) := by decide +kernel
theorem dNs_leave_29 : decode cNs_leave 29 = .ok (.invokespecial 70, 3) := by decide +kernel
theorem dNs_leave_32 : decode cNs_leave 32 = .ok (.athrow, 1) := by decide +kernel
theorem dNs_leave_33 : decode cNs_leave 33 = .ok (.aload_n 0, 1) := by decide +kernel
theorem dNs_leave_34 : decode cNs_leave 34 = .ok (.getfield 18, 3) := by decide +kernel
theorem dNs_leave_37 : decode cNs_leave 37 = .ok (.iload_n 1, 1) := by decide +kernel
theorem dNs_leave_38 : decode cNs_leave 38 = .ok (.aaload, 1) := by decide +kernel
theorem dNs_leave_39 : decode cNs_leave 39 = .ok (.iload_n 2, 1) := by decide +kernel
theorem dNs_leave_40 : decode cNs_leave 40 = .ok (.invokevirtual 78, 3) := by decide +kernel
theorem dNs_leave_43 : decode cNs_leave 43 = .ok (.return_, 1) := by decide +kernel
theorem dNs_start_0 : decode cNs_start 0 = .ok (.iload_n 1, 1) := by decide +kernel
theorem dNs_start_1 : decode cNs_start 1 = .ok (.invokestatic 59, 3) := by decide +kernel
theorem dNs_start_4 : decode cNs_start 4 = .ok (.aload_n 0, 1) := by decide +kernel
theorem dNs_start_5 : decode cNs_start 5 = .ok (.getfield 38, 3) := by decide +kernel
theorem dNs_start_8 : decode cNs_start 8 = .ok (.getfield 81, 3) := by decide +kernel
theorem dNs_start_11 : decode cNs_start 11 = .ok (.iload_n 1, 1) := by decide +kernel
theorem dNs_start_12 : decode cNs_start 12 = .ok (.baload, 1) := by decide +kernel
theorem dNs_start_13 : decode cNs_start 13 = .ok (.ifCond .eq 13, 3) := by decide +kernel
theorem dNs_start_16 : decode cNs_start 16 = .ok (.new 66, 3) := by decide +kernel
theorem dNs_start_19 : decode cNs_start 19 = .ok (.dup, 1) := by decide +kernel
theorem dNs_start_20 : decode cNs_start 20 = .ok (.ldc 85, 2) := by decide +kernel
theorem dNs_start_22 : decode cNs_start 22 = .ok (.invokespecial 70, 3) := by decide +kernel
theorem dNs_start_25 : decode cNs_start 25 = .ok (.athrow, 1) := by decide +kernel
theorem dNs_start_26 : decode cNs_start 26 = .ok (.aload_n 0, 1) := by decide +kernel
theorem dNs_start_27 : decode cNs_start 27 = .ok (.getfield 38, 3) := by decide +kernel
theorem dNs_start_30 : decode cNs_start 30 = .ok (.iload_n 1, 1) := by decide +kernel
theorem dNs_start_31 : decode cNs_start 31 = .ok (.invokevirtual 87, 3) := by decide +kernel
theorem dNs_start_34 : decode cNs_start 34 = .ok (.return_, 1) := by decide +kernel
theorem dNs_begin_0 : decode cNs_begin 0 = .ok (.iload_n 1, 1) := by decide +kernel
theorem dNs_begin_1 : decode cNs_begin 1 = .ok (.invokestatic 59, 3) := by decide +kernel
theorem dNs_begin_4 : decode cNs_begin 4 = .ok (.aload_n 0, 1) := by decide +kernel
theorem dNs_begin_5 : decode cNs_begin 5 = .ok (.getfield 45, 3) := by decide +kernel
theorem dNs_begin_8 : decode cNs_begin 8 = .ok (.invokevirtual 90, 3) := by decide +kernel
theorem dNs_begin_11 : decode cNs_begin 11 = .ok (.ifCond .ne 13, 3) := by decide +kernel
theorem dNs_begin_14 : decode cNs_begin 14 = .ok (.new 66, 3) := by decide +kernel
theorem dNs_begin_17 : decode cNs_begin 17 = .ok (.dup, 1) := by decide +kernel
theorem dNs_begin_18 : decode cNs_begin 18 = .ok (.ldc 94, 2) := by decide +kernel
theorem dNs_begin_20 : decode cNs_begin 20 = .ok (.invokespecial 70, 3) := by decide +kernel
theorem dNs_begin_23 : decode cNs_begin 23 = .ok (.athrow, 1) := by decide +kernel
theorem dNs_begin_24 : decode cNs_begin 24 = .ok (.aload_n 0, 1) := by decide +kernel
theorem dNs_begin_25 : decode cNs_begin 25 = .ok (.getfield 45, 3) := by decide +kernel
theorem dNs_begin_28 : decode cNs_begin 28 = .ok (.iload_n 1, 1) := by decide +kernel
theorem dNs_begin_29 : decode cNs_begin 29 = .ok (.invokevirtual 96, 3) := by decide +kernel
theorem dNs_begin_32 : decode cNs_begin 32 = .ok (.return_, 1) := by decide +kernel
theorem dNs_spread_0 : decode cNs_spread 0 = .ok (.iload_n 1, 1) := by decide +kernel
theorem dNs_spread_1 : decode cNs_spread 1 = .ok (.iload_n 2, 1) := by decide +kernel
theorem dNs_spread_2 : decode cNs_spread 2 = .ok (.invokestatic 99, 3) := by decide +kernel
theorem dNs_spread_5 : decode cNs_spread 5 = .ok (.aload_n 0, 1) := by decide +kernel
theorem dNs_spread_6 : decode cNs_spread 6 = .ok (.getfield 45, 3) := by decide +kernel
theorem dNs_spread_9 : decode cNs_spread 9 = .ok (.getfield 103, 3) := by decide +kernel
theorem dNs_spread_12 : decode cNs_spread 12 = .ok (.iload_n 1, 1) := by decide +kernel
theorem dNs_spread_13 : decode cNs_spread 13 = .ok (.baload, 1) := by decide +kernel
theorem dNs_spread_14 : decode cNs_spread 14 = .ok (.ifCond .eq 14, 3) := by decide +kernel
theorem dNs_spread_17 : decode cNs_spread 17 = .ok (.aload_n 0, 1) := by decide +kernel
theorem dNs_spread_18 : decode cNs_spread 18 = .ok (.getfield 45, 3) := by decide +kernel
theorem dNs_spread_21 : decode cNs_spread 21 = .ok (.iload_n 1, 1) := by decide +kernel
theorem dNs_spread_22 : decode cNs_spread 22 = .ok (.invokevirtual 106, 3) := by decide +kernel
theorem dNs_spread_25 : decode cNs_spread 25 = .ok (.ifCond .eq 13, 3) := by decide +kernel
theorem dNs_spread_28 : decode cNs_spread 28 = .ok (.new 66, 3) := by decide +kernel
theorem dNs_spread_31 : decode cNs_spread 31 = .ok (.dup, 1) := by decide +kernel
theorem dNs_spread_32 : decode cNs_spread 32 = .ok (.ldc 110, 2) := by decide +kernel
theorem dNs_spread_34 : decode cNs_spread 34 = .ok (.invokespecial 70, 3) := by decide +kernel
theorem dNs_spread_37 : decode cNs_spread 37 = .ok (.athrow, 1) := by decide +kernel
theorem dNs_spread_38 : decode cNs_spread 38 = .ok (.aload_n 0, 1) := by decide +kernel
theorem dNs_spread_39 : decode cNs_spread 39 = .ok (.getfield 45, 3) := by decide +kernel
theorem dNs_spread_42 : decode cNs_spread 42 = .ok (.iload_n 1, 1) := by decide +kernel
theorem dNs_spread_43 : decode cNs_spread 43 = .ok (.iload_n 2, 1) := by decide +kernel
theorem dNs_spread_44 : decode cNs_spread 44 = .ok (.invokevirtual 112, 3) := by decide +kernel
theorem dNs_spread_47 : decode cNs_spread 47 = .ok (.return_, 1) := by decide +kernel
theorem dNs_rest_0 : decode cNs_rest 0 = .ok (.iload_n 1, 1) := by decide +kernel
theorem dNs_rest_1 : decode cNs_rest 1 = .ok (.invokestatic 59, 3) := by decide +kernel
theorem dNs_rest_4 : decode cNs_rest 4 = .ok (.aload_n 0, 1) := by decide +kernel
theorem dNs_rest_5 : decode cNs_rest 5 = .ok (.getfield 45, 3) := by decide +kernel
theorem dNs_rest_8 : decode cNs_rest 8 = .ok (.getfield 103, 3) := by decide +kernel
theorem dNs_rest_11 : decode cNs_rest 11 = .ok (.iload_n 1, 1) := by decide +kernel
theorem dNs_rest_12 : decode cNs_rest 12 = .ok (.baload, 1) := by decide +kernel
theorem dNs_rest_13 : decode cNs_rest 13 = .ok (.ifCond .ne 13, 3) := by decide +kernel
theorem dNs_rest_16 : decode cNs_rest 16 = .ok (.new 66, 3) := by decide +kernel
theorem dNs_rest_19 : decode cNs_rest 19 = .ok (.dup, 1) := by decide +kernel
theorem dNs_rest_20 : decode cNs_rest 20 = .ok (.ldc 115, 2) := by decide +kernel
theorem dNs_rest_22 : decode cNs_rest 22 = .ok (.invokespecial 70, 3) := by decide +kernel
theorem dNs_rest_25 : decode cNs_rest 25 = .ok (.athrow, 1) := by decide +kernel
theorem dNs_rest_26 : decode cNs_rest 26 = .ok (.aload_n 0, 1) := by decide +kernel
theorem dNs_rest_27 : decode cNs_rest 27 = .ok (.getfield 45, 3) := by decide +kernel
theorem dNs_rest_30 : decode cNs_rest 30 = .ok (.iload_n 1, 1) := by decide +kernel
theorem dNs_rest_31 : decode cNs_rest 31 = .ok (.invokevirtual 117, 3) := by decide +kernel
theorem dNs_rest_34 : decode cNs_rest 34 = .ok (.return_, 1) := by decide +kernel
theorem dNs_deliver_0 : decode cNs_deliver 0 = .ok (.iload_n 1, 1) := by decide +kernel
theorem dNs_deliver_1 : decode cNs_deliver 1 = .ok (.iload_n 2, 1) := by decide +kernel
theorem dNs_deliver_2 : decode cNs_deliver 2 = .ok (.invokestatic 99, 3) := by decide +kernel
theorem dNs_deliver_5 : decode cNs_deliver 5 = .ok (.aload_n 0, 1) := by decide +kernel
theorem dNs_deliver_6 : decode cNs_deliver 6 = .ok (.getfield 10, 3) := by decide +kernel
theorem dNs_deliver_9 : decode cNs_deliver 9 = .ok (.iload_n 1, 1) := by decide +kernel
theorem dNs_deliver_10 : decode cNs_deliver 10 = .ok (.iload_n 2, 1) := by decide +kernel
theorem dNs_deliver_11 : decode cNs_deliver 11 = .ok (.invokevirtual 120, 3) := by decide +kernel
theorem dNs_deliver_14 : decode cNs_deliver 14 = .ok (.invokevirtual 124, 3) := by decide +kernel
theorem dNs_deliver_17 : decode cNs_deliver 17 = .ok (.astore_n 3, 1) := by decide +kernel
theorem dNs_deliver_18 : decode cNs_deliver 18 = .ok (.aload_n 3, 1) := by decide +kernel
theorem dNs_deliver_19 : decode cNs_deliver 19 = .ok (.ifnonnull 13, 3) := by decide +kernel
theorem dNs_deliver_22 : decode cNs_deliver 22 = .ok (.new 130, 3) := by decide +kernel
theorem dNs_deliver_25 : decode cNs_deliver 25 = .ok (.dup, 1) := by decide +kernel
theorem dNs_deliver_26 : decode cNs_deliver 26 = .ok (.ldc 132, 2) := by decide +kernel
theorem dNs_deliver_28 : decode cNs_deliver 28 = .ok (.invokespecial 134, 3) := by decide +kernel
theorem dNs_deliver_31 : decode cNs_deliver 31 = .ok (.athrow, 1) := by decide +kernel
theorem dNs_deliver_32 : decode cNs_deliver 32 = .ok (.aload_n 0, 1) := by decide +kernel
theorem dNs_deliver_33 : decode cNs_deliver 33 = .ok (.getfield 51, 3) := by decide +kernel
theorem dNs_deliver_36 : decode cNs_deliver 36 = .ok (.aload_n 3, 1) := by decide +kernel
theorem dNs_deliver_37 : decode cNs_deliver 37 = .ok (.getfield 135, 3) := by decide +kernel
theorem dNs_deliver_40 : decode cNs_deliver 40 = .ok (.aaload, 1) := by decide +kernel
theorem dNs_deliver_41 : decode cNs_deliver 41 = .ok (.iload_n 1, 1) := by decide +kernel
theorem dNs_deliver_42 : decode cNs_deliver 42 = .ok (.iload_n 2, 1) := by decide +kernel
theorem dNs_deliver_43 : decode cNs_deliver 43 = .ok (.aload_n 3, 1) := by decide +kernel
theorem dNs_deliver_44 : decode cNs_deliver 44 = .ok (.invokevirtual 141, 3) := by decide +kernel
theorem dNs_deliver_47 : decode cNs_deliver 47 = .ok (.aload_n 3, 1) := by decide +kernel
theorem dNs_deliver_48 : decode cNs_deliver 48 = .ok (.getfield 135, 3) := by decide +kernel
theorem dNs_deliver_51 : decode cNs_deliver 51 = .ok (.ireturn, 1) := by decide +kernel
theorem dNs_first_0 : decode cNs_first 0 = .ok (.iload_n 1, 1) := by decide +kernel
theorem dNs_first_1 : decode cNs_first 1 = .ok (.iload_n 2, 1) := by decide +kernel
theorem dNs_first_2 : decode cNs_first 2 = .ok (.invokestatic 99, 3) := by decide +kernel
theorem dNs_first_5 : decode cNs_first 5 = .ok (.aload_n 0, 1) := by decide +kernel
theorem dNs_first_6 : decode cNs_first 6 = .ok (.getfield 10, 3) := by decide +kernel
theorem dNs_first_9 : decode cNs_first 9 = .ok (.iload_n 1, 1) := by decide +kernel
theorem dNs_first_10 : decode cNs_first 10 = .ok (.iload_n 2, 1) := by decide +kernel
theorem dNs_first_11 : decode cNs_first 11 = .ok (.invokevirtual 120, 3) := by decide +kernel
theorem dNs_first_14 : decode cNs_first 14 = .ok (.getfield 145, 3) := by decide +kernel
theorem dNs_first_17 : decode cNs_first 17 = .ok (.astore_n 3, 1) := by decide +kernel
theorem dNs_first_18 : decode cNs_first 18 = .ok (.aload_n 3, 1) := by decide +kernel
theorem dNs_first_19 : decode cNs_first 19 = .ok (.ifnonnull 5, 3) := by decide +kernel
theorem dNs_first_22 : decode cNs_first 22 = .ok (.iconst (-1), 1) := by decide +kernel
theorem dNs_first_23 : decode cNs_first 23 = .ok (.ireturn, 1) := by decide +kernel
theorem dNs_first_24 : decode cNs_first 24 = .ok (.aload_n 3, 1) := by decide +kernel
theorem dNs_first_25 : decode cNs_first 25 = .ok (.getfield 149, 3) := by decide +kernel
theorem dNs_first_28 : decode cNs_first 28 = .ok (.ifnonnull 7, 3) := by decide +kernel
theorem dNs_first_31 : decode cNs_first 31 = .ok (.iconst 0, 1) := by decide +kernel
theorem dNs_first_32 : decode cNs_first 32 = .ok (.goto 4, 3) := by decide +kernel
theorem dNs_first_35 : decode cNs_first 35 = .ok (.iconst 1, 1) := by decide +kernel
theorem dNs_first_36 : decode cNs_first 36 = .ok (.istore 4, 2) := by decide +kernel
theorem dNs_first_38 : decode cNs_first 38 = .ok (.bipush 100, 2) := by decide +kernel
theorem dNs_first_40 : decode cNs_first 40 = .ok (.aload_n 3, 1) := by decide +kernel
theorem dNs_first_41 : decode cNs_first 41 = .ok (.getfield 135, 3) := by decide +kernel
theorem dNs_first_44 : decode cNs_first 44 = .ok (.imul, 1) := by decide +kernel
theorem dNs_first_45 : decode cNs_first 45 = .ok (.bipush 10, 2) := by decide +kernel
theorem dNs_first_47 : decode cNs_first 47 = .ok (.aload_n 3, 1) := by decide +kernel
theorem dNs_first_48 : decode cNs_first 48 = .ok (.getfield 152, 3) := by decide +kernel
theorem dNs_first_51 : decode cNs_first 51 = .ok (.imul, 1) := by decide +kernel
theorem dNs_first_52 : decode cNs_first 52 = .ok (.iadd, 1) := by decide +kernel
theorem dNs_first_53 : decode cNs_first 53 = .ok (.iload 4, 2) := by decide +kernel
theorem dNs_first_55 : decode cNs_first 55 = .ok (.iadd, 1) := by decide +kernel
theorem dNs_first_56 : decode cNs_first 56 = .ok (.ireturn, 1) := by decide +kernel
theorem dNs_waiting_0 : decode cNs_waiting 0 = .ok (.iload_n 1, 1) := by decide +kernel
theorem dNs_waiting_1 : decode cNs_waiting 1 = .ok (.iload_n 2, 1) := by decide +kernel
theorem dNs_waiting_2 : decode cNs_waiting 2 = .ok (.invokestatic 99, 3) := by decide +kernel
theorem dNs_waiting_5 : decode cNs_waiting 5 = .ok (.aload_n 0, 1) := by decide +kernel
theorem dNs_waiting_6 : decode cNs_waiting 6 = .ok (.getfield 10, 3) := by decide +kernel
theorem dNs_waiting_9 : decode cNs_waiting 9 = .ok (.iload_n 1, 1) := by decide +kernel
theorem dNs_waiting_10 : decode cNs_waiting 10 = .ok (.iload_n 2, 1) := by decide +kernel
theorem dNs_waiting_11 : decode cNs_waiting 11 = .ok (.invokevirtual 120, 3) := by decide +kernel
theorem dNs_waiting_14 : decode cNs_waiting 14 = .ok (.getfield 155, 3) := by decide +kernel
theorem dNs_waiting_17 : decode cNs_waiting 17 = .ok (.ireturn, 1) := by decide +kernel
theorem dNs_about_0 : decode cNs_about 0 = .ok (.iload_n 1, 1) := by decide +kernel
theorem dNs_about_1 : decode cNs_about 1 = .ok (.invokestatic 158, 3) := by decide +kernel
theorem dNs_about_4 : decode cNs_about 4 = .ok (.iload_n 2, 1) := by decide +kernel
theorem dNs_about_5 : decode cNs_about 5 = .ok (.invokestatic 59, 3) := by decide +kernel
theorem dNs_about_8 : decode cNs_about 8 = .ok (.aload_n 0, 1) := by decide +kernel
theorem dNs_about_9 : decode cNs_about 9 = .ok (.getfield 51, 3) := by decide +kernel
theorem dNs_about_12 : decode cNs_about 12 = .ok (.iload_n 1, 1) := by decide +kernel
theorem dNs_about_13 : decode cNs_about 13 = .ok (.aaload, 1) := by decide +kernel
theorem dNs_about_14 : decode cNs_about 14 = .ok (.iload_n 2, 1) := by decide +kernel
theorem dNs_about_15 : decode cNs_about 15 = .ok (.invokevirtual 161, 3) := by decide +kernel
theorem dNs_about_18 : decode cNs_about 18 = .ok (.ireturn, 1) := by decide +kernel
theorem dNs_more_0 : decode cNs_more 0 = .ok (.iload_n 1, 1) := by decide +kernel
theorem dNs_more_1 : decode cNs_more 1 = .ok (.invokestatic 158, 3) := by decide +kernel
theorem dNs_more_4 : decode cNs_more 4 = .ok (.iload_n 2, 1) := by decide +kernel
theorem dNs_more_5 : decode cNs_more 5 = .ok (.invokestatic 59, 3) := by decide +kernel
theorem dNs_more_8 : decode cNs_more 8 = .ok (.aload_n 0, 1) := by decide +kernel
theorem dNs_more_9 : decode cNs_more 9 = .ok (.getfield 51, 3) := by decide +kernel
theorem dNs_more_12 : decode cNs_more 12 = .ok (.iload_n 1, 1) := by decide +kernel
theorem dNs_more_13 : decode cNs_more 13 = .ok (.aaload, 1) := by decide +kernel
theorem dNs_more_14 : decode cNs_more 14 = .ok (.iload_n 2, 1) := by decide +kernel
theorem dNs_more_15 : decode cNs_more 15 = .ok (.invokevirtual 165, 3) := by decide +kernel
theorem dNs_more_18 : decode cNs_more 18 = .ok (.ireturn, 1) := by decide +kernel
