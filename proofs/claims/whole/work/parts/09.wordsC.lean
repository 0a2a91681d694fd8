theorem wm_2 : Cond.initialized "NodeServices$Network" ∈ wg := mem_wg (List.mem_append_right _ (List.mem_of_getElem? (i := 2) (by decide +kernel))) (by decide +kernel)
theorem wm_3 : Cond.initialized "NodeServices$Channel" ∈ wg := mem_wg (List.mem_append_right _ (List.mem_of_getElem? (i := 3) (by decide +kernel))) (by decide +kernel)
theorem wm_4 : Cond.initialized "NodeServices$Service" ∈ wg := mem_wg (List.mem_append_right _ (List.mem_of_getElem? (i := 4) (by decide +kernel))) (by decide +kernel)
theorem wm_5 : Cond.initialized "NodeServices$Lock" ∈ wg := mem_wg (List.mem_append_right _ (List.mem_of_getElem? (i := 5) (by decide +kernel))) (by decide +kernel)
theorem wm_6 : Cond.initialized "NodeServices$StampLock" ∈ wg := mem_wg (List.mem_append_right _ (List.mem_of_getElem? (i := 6) (by decide +kernel))) (by decide +kernel)
theorem wm_7 : Cond.initialized "NodeServices$TokenLock" ∈ wg := mem_wg (List.mem_append_right _ (List.mem_of_getElem? (i := 7) (by decide +kernel))) (by decide +kernel)
theorem wm_8 : Cond.initialized "NodeServices$NodeRow" ∈ wg := mem_wg (List.mem_append_right _ (List.mem_of_getElem? (i := 8) (by decide +kernel))) (by decide +kernel)
theorem wm_9 : Cond.initialized "NodeServices$TreeLock" ∈ wg := mem_wg (List.mem_append_right _ (List.mem_of_getElem? (i := 9) (by decide +kernel))) (by decide +kernel)
theorem wm_10 : Cond.initialized "NodeServices$Election" ∈ wg := mem_wg (List.mem_append_right _ (List.mem_of_getElem? (i := 10) (by decide +kernel))) (by decide +kernel)
theorem wm_11 : Cond.initialized "java/lang/Math" ∈ wg := mem_wg (List.mem_append_right _ (List.mem_of_getElem? (i := 11) (by decide +kernel))) (by decide +kernel)
theorem wm_12 : Cond.initialized "NodeServices$Work" ∈ wg := mem_wg (List.mem_append_right _ (List.mem_of_getElem? (i := 12) (by decide +kernel))) (by decide +kernel)
theorem wm_19 : Cond.initialized "NodeServices$Message" ∈ wg := mem_wg (List.mem_append_right _ (List.mem_of_getElem? (i := 19) (by decide +kernel))) (by decide +kernel)
theorem wm_27 : Cond.instanceMethod objectInit ∈ wg := mem_wg (List.mem_append_right _ (List.mem_of_getElem? (i := 27) (by decide +kernel))) (by decide +kernel)
theorem wm_28 : Cond.code objectInit ⟨#[0xb1]⟩ 1 none ∈ wg := mem_wg (List.mem_append_right _ (List.mem_of_getElem? (i := 28) (by decide +kernel))) (by decide +kernel)
theorem wm_42 : Cond.fieldLink "NodeServices$Channel" 17 "NodeServices$Channel" "head" "LNodeServices$Message;" ∈ wg := mem_wg (List.mem_append_right _ (List.mem_of_getElem? (i := 42) (by decide +kernel))) (by decide +kernel)
theorem wm_44 : Cond.fieldLink "NodeServices$Channel" 13 "NodeServices$Channel" "tail" "LNodeServices$Message;" ∈ wg := mem_wg (List.mem_append_right _ (List.mem_of_getElem? (i := 44) (by decide +kernel))) (by decide +kernel)
theorem wm_45 : Cond.fieldLink "NodeServices$Channel" 7 "NodeServices$Channel" "size" "I" ∈ wg := mem_wg (List.mem_append_right _ (List.mem_of_getElem? (i := 45) (by decide +kernel))) (by decide +kernel)
theorem wm_54 : Cond.fieldLink "NodeServices$Network" 11 "NodeServices$Network" "channels" "[LNodeServices$Channel;" ∈ wg := mem_wg (List.mem_append_right _ (List.mem_of_getElem? (i := 54) (by decide +kernel))) (by decide +kernel)
theorem wm_55 : Cond.fieldLink "NodeServices$Network" 18 "NodeServices$Network" "sent" "I" ∈ wg := mem_wg (List.mem_append_right _ (List.mem_of_getElem? (i := 55) (by decide +kernel))) (by decide +kernel)
theorem wm_76 : Cond.fieldLink "NodeServices$StampLock" 9 "NodeServices$StampLock" "clock" "[I" ∈ wg := mem_wg (List.mem_append_right _ (List.mem_of_getElem? (i := 76) (by decide +kernel))) (by decide +kernel)
theorem wm_77 : Cond.fieldLink "NodeServices$StampLock" 15 "NodeServices$StampLock" "stamp" "[I" ∈ wg := mem_wg (List.mem_append_right _ (List.mem_of_getElem? (i := 77) (by decide +kernel))) (by decide +kernel)
theorem wm_78 : Cond.fieldLink "NodeServices$StampLock" 18 "NodeServices$StampLock" "replies" "[I" ∈ wg := mem_wg (List.mem_append_right _ (List.mem_of_getElem? (i := 78) (by decide +kernel))) (by decide +kernel)
theorem wm_79 : Cond.fieldLink "NodeServices$StampLock" 21 "NodeServices$StampLock" "putOff" "[Z" ∈ wg := mem_wg (List.mem_append_right _ (List.mem_of_getElem? (i := 79) (by decide +kernel))) (by decide +kernel)
theorem wm_80 : Cond.fieldLink "NodeServices$Lock" 9 "NodeServices$Lock" "state" "[I" ∈ wg := mem_wg (List.mem_append_right _ (List.mem_of_getElem? (i := 80) (by decide +kernel))) (by decide +kernel)
theorem wm_82 : Cond.fieldLink "NodeServices$TreeLock" 36 "NodeServices$TreeLock" "state" "[I" ∈ wg := mem_wg (List.mem_append_right _ (List.mem_of_getElem? (i := 82) (by decide +kernel))) (by decide +kernel)
theorem wm_83 : Cond.sameField "NodeServices$TreeLock" "NodeServices$Lock" "state" "[I" ∈ wg := mem_wg (List.mem_append_right _ (List.mem_of_getElem? (i := 83) (by decide +kernel))) (by decide +kernel)
theorem wm_84 : Cond.fieldLink "NodeServices$TokenLock" 37 "NodeServices$TokenLock" "state" "[I" ∈ wg := mem_wg (List.mem_append_right _ (List.mem_of_getElem? (i := 84) (by decide +kernel))) (by decide +kernel)
theorem wm_85 : Cond.sameField "NodeServices$TokenLock" "NodeServices$Lock" "state" "[I" ∈ wg := mem_wg (List.mem_append_right _ (List.mem_of_getElem? (i := 85) (by decide +kernel))) (by decide +kernel)
theorem wm_86 : Cond.fieldLink "NodeServices$StampLock" 25 "NodeServices$StampLock" "state" "[I" ∈ wg := mem_wg (List.mem_append_right _ (List.mem_of_getElem? (i := 86) (by decide +kernel))) (by decide +kernel)
theorem wm_87 : Cond.sameField "NodeServices$StampLock" "NodeServices$Lock" "state" "[I" ∈ wg := mem_wg (List.mem_append_right _ (List.mem_of_getElem? (i := 87) (by decide +kernel))) (by decide +kernel)
theorem wm_88 : Cond.fieldLink "NodeServices$Lock" 15 "NodeServices$Lock" "entries" "I" ∈ wg := mem_wg (List.mem_append_right _ (List.mem_of_getElem? (i := 88) (by decide +kernel))) (by decide +kernel)
theorem wm_90 : Cond.fieldLink "NodeServices$Service" 9 "NodeServices$Service" "network" "LNodeServices$Network;" ∈ wg := mem_wg (List.mem_append_right _ (List.mem_of_getElem? (i := 90) (by decide +kernel))) (by decide +kernel)
theorem wm_91 : Cond.fieldLink "NodeServices$Service" 15 "NodeServices$Service" "number" "I" ∈ wg := mem_wg (List.mem_append_right _ (List.mem_of_getElem? (i := 91) (by decide +kernel))) (by decide +kernel)
theorem wm_125 : Cond.fieldLink "NodeServices$NodeRow" 9 "NodeServices$NodeRow" "nodes" "[I" ∈ wg := mem_wg (List.mem_append_right _ (List.mem_of_getElem? (i := 125) (by decide +kernel))) (by decide +kernel)
theorem wm_126 : Cond.fieldLink "NodeServices$NodeRow" 15 "NodeServices$NodeRow" "size" "I" ∈ wg := mem_wg (List.mem_append_right _ (List.mem_of_getElem? (i := 126) (by decide +kernel))) (by decide +kernel)
theorem wm_132 : Cond.fieldLink "NodeServices$TokenLock" 11 "NodeServices$TokenLock" "known" "[[I" ∈ wg := mem_wg (List.mem_append_right _ (List.mem_of_getElem? (i := 132) (by decide +kernel))) (by decide +kernel)
theorem wm_133 : Cond.fieldLink "NodeServices$TokenLock" 16 "NodeServices$TokenLock" "done" "[I" ∈ wg := mem_wg (List.mem_append_right _ (List.mem_of_getElem? (i := 133) (by decide +kernel))) (by decide +kernel)
theorem wm_134 : Cond.fieldLink "NodeServices$TokenLock" 25 "NodeServices$TokenLock" "row" "LNodeServices$NodeRow;" ∈ wg := mem_wg (List.mem_append_right _ (List.mem_of_getElem? (i := 134) (by decide +kernel))) (by decide +kernel)
theorem wm_135 : Cond.fieldLink "NodeServices$TokenLock" 29 "NodeServices$TokenLock" "keeper" "I" ∈ wg := mem_wg (List.mem_append_right _ (List.mem_of_getElem? (i := 135) (by decide +kernel))) (by decide +kernel)
theorem wm_167 : Cond.fieldLink "NodeServices$TreeLock" 20 "NodeServices$TreeLock" "holder" "[I" ∈ wg := mem_wg (List.mem_append_right _ (List.mem_of_getElem? (i := 167) (by decide +kernel))) (by decide +kernel)
theorem wm_168 : Cond.fieldLink "NodeServices$TreeLock" 25 "NodeServices$TreeLock" "queues" "[LNodeServices$NodeRow;" ∈ wg := mem_wg (List.mem_append_right _ (List.mem_of_getElem? (i := 168) (by decide +kernel))) (by decide +kernel)
theorem wm_169 : Cond.fieldLink "NodeServices$TreeLock" 29 "NodeServices$TreeLock" "asked" "[Z" ∈ wg := mem_wg (List.mem_append_right _ (List.mem_of_getElem? (i := 169) (by decide +kernel))) (by decide +kernel)
theorem wm_190 : Cond.fieldLink "NodeServices$Election" 9 "NodeServices$Election" "takesPart" "[Z" ∈ wg := mem_wg (List.mem_append_right _ (List.mem_of_getElem? (i := 190) (by decide +kernel))) (by decide +kernel)
theorem wm_192 : Cond.fieldLink "NodeServices$Election" 15 "NodeServices$Election" "ids" "[I" ∈ wg := mem_wg (List.mem_append_right _ (List.mem_of_getElem? (i := 192) (by decide +kernel))) (by decide +kernel)
theorem wm_193 : Cond.fieldLink "NodeServices$Election" 19 "NodeServices$Election" "leader" "[I" ∈ wg := mem_wg (List.mem_append_right _ (List.mem_of_getElem? (i := 193) (by decide +kernel))) (by decide +kernel)
theorem wm_209 : Cond.fieldLink "NodeServices$Work" 9 "NodeServices$Work" "busy" "[Z" ∈ wg := mem_wg (List.mem_append_right _ (List.mem_of_getElem? (i := 209) (by decide +kernel))) (by decide +kernel)
theorem wm_211 : Cond.fieldLink "NodeServices$Work" 15 "NodeServices$Work" "root" "I" ∈ wg := mem_wg (List.mem_append_right _ (List.mem_of_getElem? (i := 211) (by decide +kernel))) (by decide +kernel)
theorem wm_213 : Cond.fieldLink "NodeServices$Work" 47 "NodeServices$Work" "ends" "I" ∈ wg := mem_wg (List.mem_append_right _ (List.mem_of_getElem? (i := 213) (by decide +kernel))) (by decide +kernel)
theorem wm_215 : Cond.fieldLink "NodeServices$Work" 19 "NodeServices$Work" "parent" "[I" ∈ wg := mem_wg (List.mem_append_right _ (List.mem_of_getElem? (i := 215) (by decide +kernel))) (by decide +kernel)
theorem wm_216 : Cond.fieldLink "NodeServices$Work" 23 "NodeServices$Work" "unanswered" "[I" ∈ wg := mem_wg (List.mem_append_right _ (List.mem_of_getElem? (i := 216) (by decide +kernel))) (by decide +kernel)
theorem wm_365 : Cond.methodLink "NodeServices$StampLock" 28 ⟨"NodeServices$StampLock", "sendToAllOthers", "(III)V"⟩ ∈ wg := mem_wg (List.mem_append_right _ (List.mem_of_getElem? (i := 365) (by decide +kernel))) (by decide +kernel)
theorem wm_366 : Cond.sameMethod "NodeServices$StampLock" "NodeServices$Service" "sendToAllOthers" "(III)V" ∈ wg := mem_wg (List.mem_append_right _ (List.mem_of_getElem? (i := 366) (by decide +kernel))) (by decide +kernel)
theorem wm_368 : Cond.selects "NodeServices$StampLock" ⟨"NodeServices$StampLock", "sendToAllOthers", "(III)V"⟩ ySv_sendToAllOthers ∈ wg := mem_wg (List.mem_append_right _ (List.mem_of_getElem? (i := 368) (by decide +kernel))) (by decide +kernel)
theorem wm_369 : Cond.instanceMethod ySv_sendToAllOthers ∈ wg := mem_wg (List.mem_append_right _ (List.mem_of_getElem? (i := 369) (by decide +kernel))) (by decide +kernel)
theorem wm_370 : Cond.code ySv_sendToAllOthers cSv_sendToAllOthers 5 none ∈ wg := mem_wg (List.mem_append_right _ (List.mem_of_getElem? (i := 370) (by decide +kernel))) (by decide +kernel)
theorem wm_371 : Cond.methodLink "NodeServices$Service" 30 ⟨"NodeServices$Service", "send", "(IIII)V"⟩ ∈ wg := mem_wg (List.mem_append_right _ (List.mem_of_getElem? (i := 371) (by decide +kernel))) (by decide +kernel)
theorem wm_372 : Cond.instanceMethod ySv_send ∈ wg := mem_wg (List.mem_append_right _ (List.mem_of_getElem? (i := 372) (by decide +kernel))) (by decide +kernel)
theorem wm_373 : Cond.sameMethod "NodeServices$Service" "NodeServices$Service" "send" "(IIII)V" ∈ wg := mem_wg (List.mem_append_right _ (List.mem_of_getElem? (i := 373) (by decide +kernel))) (by decide +kernel)
theorem wm_375 : Cond.selects "NodeServices$StampLock" ⟨"NodeServices$Service", "send", "(IIII)V"⟩ ySv_send ∈ wg := mem_wg (List.mem_append_right _ (List.mem_of_getElem? (i := 375) (by decide +kernel))) (by decide +kernel)
theorem wm_376 : Cond.selects "NodeServices$TokenLock" ⟨"NodeServices$Service", "send", "(IIII)V"⟩ ySv_send ∈ wg := mem_wg (List.mem_append_right _ (List.mem_of_getElem? (i := 376) (by decide +kernel))) (by decide +kernel)
theorem wm_379 : Cond.code ySv_send cSv_send 5 none ∈ wg := mem_wg (List.mem_append_right _ (List.mem_of_getElem? (i := 379) (by decide +kernel))) (by decide +kernel)
theorem wm_380 : Cond.classLink "NodeServices$Service" 19 "NodeServices$Message" ∈ wg := mem_wg (List.mem_append_right _ (List.mem_of_getElem? (i := 380) (by decide +kernel))) (by decide +kernel)
theorem wm_381 : Cond.instantiable "NodeServices$Message" 4 ∈ wg := mem_wg (List.mem_append_right _ (List.mem_of_getElem? (i := 381) (by decide +kernel))) (by decide +kernel)
theorem wm_382 : Cond.methodLink "NodeServices$Service" 21 yMs_init ∈ wg := mem_wg (List.mem_append_right _ (List.mem_of_getElem? (i := 382) (by decide +kernel))) (by decide +kernel)
theorem wm_383 : Cond.instanceMethod yMs_init ∈ wg := mem_wg (List.mem_append_right _ (List.mem_of_getElem? (i := 383) (by decide +kernel))) (by decide +kernel)
theorem wm_384 : Cond.code yMs_init cMs_init 4 none ∈ wg := mem_wg (List.mem_append_right _ (List.mem_of_getElem? (i := 384) (by decide +kernel))) (by decide +kernel)
theorem wm_385 : Cond.methodLink "NodeServices$Message" 1 objectInit ∈ wg := mem_wg (List.mem_append_right _ (List.mem_of_getElem? (i := 385) (by decide +kernel))) (by decide +kernel)
theorem wm_386 : Cond.fieldLink "NodeServices$Message" 7 "NodeServices$Message" "service" "I" ∈ wg := mem_wg (List.mem_append_right _ (List.mem_of_getElem? (i := 386) (by decide +kernel))) (by decide +kernel)
theorem wm_388 : Cond.fieldLink "NodeServices$Message" 13 "NodeServices$Message" "kind" "I" ∈ wg := mem_wg (List.mem_append_right _ (List.mem_of_getElem? (i := 388) (by decide +kernel))) (by decide +kernel)
theorem wm_389 : Cond.fieldLink "NodeServices$Election" 32 "NodeServices$Message" "kind" "I" ∈ wg := mem_wg (List.mem_append_right _ (List.mem_of_getElem? (i := 389) (by decide +kernel))) (by decide +kernel)
theorem wm_390 : Cond.fieldLink "NodeServices$StampLock" 36 "NodeServices$Message" "kind" "I" ∈ wg := mem_wg (List.mem_append_right _ (List.mem_of_getElem? (i := 390) (by decide +kernel))) (by decide +kernel)
theorem wm_391 : Cond.fieldLink "NodeServices$TokenLock" 67 "NodeServices$Message" "kind" "I" ∈ wg := mem_wg (List.mem_append_right _ (List.mem_of_getElem? (i := 391) (by decide +kernel))) (by decide +kernel)
theorem wm_392 : Cond.fieldLink "NodeServices$TreeLock" 46 "NodeServices$Message" "kind" "I" ∈ wg := mem_wg (List.mem_append_right _ (List.mem_of_getElem? (i := 392) (by decide +kernel))) (by decide +kernel)
theorem wm_393 : Cond.fieldLink "NodeServices$Work" 38 "NodeServices$Message" "kind" "I" ∈ wg := mem_wg (List.mem_append_right _ (List.mem_of_getElem? (i := 393) (by decide +kernel))) (by decide +kernel)
theorem wm_395 : Cond.fieldLink "NodeServices$Message" 16 "NodeServices$Message" "value" "I" ∈ wg := mem_wg (List.mem_append_right _ (List.mem_of_getElem? (i := 395) (by decide +kernel))) (by decide +kernel)
theorem wm_396 : Cond.fieldLink "NodeServices$Election" 38 "NodeServices$Message" "value" "I" ∈ wg := mem_wg (List.mem_append_right _ (List.mem_of_getElem? (i := 396) (by decide +kernel))) (by decide +kernel)
theorem wm_397 : Cond.fieldLink "NodeServices$StampLock" 42 "NodeServices$Message" "value" "I" ∈ wg := mem_wg (List.mem_append_right _ (List.mem_of_getElem? (i := 397) (by decide +kernel))) (by decide +kernel)
theorem wm_398 : Cond.fieldLink "NodeServices$TokenLock" 72 "NodeServices$Message" "value" "I" ∈ wg := mem_wg (List.mem_append_right _ (List.mem_of_getElem? (i := 398) (by decide +kernel))) (by decide +kernel)
theorem wm_399 : Cond.fieldLink "NodeServices$Channel" 20 "NodeServices$Message" "next" "LNodeServices$Message;" ∈ wg := mem_wg (List.mem_append_right _ (List.mem_of_getElem? (i := 399) (by decide +kernel))) (by decide +kernel)
theorem wm_410 : Cond.methodLink "NodeServices$Service" 24 yNw_post ∈ wg := mem_wg (List.mem_append_right _ (List.mem_of_getElem? (i := 410) (by decide +kernel))) (by decide +kernel)
theorem wm_411 : Cond.instanceMethod yNw_post ∈ wg := mem_wg (List.mem_append_right _ (List.mem_of_getElem? (i := 411) (by decide +kernel))) (by decide +kernel)
theorem wm_412 : Cond.selects "NodeServices$Network" yNw_post yNw_post ∈ wg := mem_wg (List.mem_append_right _ (List.mem_of_getElem? (i := 412) (by decide +kernel))) (by decide +kernel)
theorem wm_413 : Cond.code yNw_post cNw_post 4 none ∈ wg := mem_wg (List.mem_append_right _ (List.mem_of_getElem? (i := 413) (by decide +kernel))) (by decide +kernel)
theorem wm_414 : Cond.methodLink "NodeServices$Network" 22 yNw_channel ∈ wg := mem_wg (List.mem_append_right _ (List.mem_of_getElem? (i := 414) (by decide +kernel))) (by decide +kernel)
theorem wm_415 : Cond.instanceMethod yNw_channel ∈ wg := mem_wg (List.mem_append_right _ (List.mem_of_getElem? (i := 415) (by decide +kernel))) (by decide +kernel)
theorem wm_416 : Cond.selects "NodeServices$Network" yNw_channel yNw_channel ∈ wg := mem_wg (List.mem_append_right _ (List.mem_of_getElem? (i := 416) (by decide +kernel))) (by decide +kernel)
theorem wm_417 : Cond.code yNw_channel cNw_channel 3 (some (.object "NodeServices$Channel")) ∈ wg := mem_wg (List.mem_append_right _ (List.mem_of_getElem? (i := 417) (by decide +kernel))) (by decide +kernel)
theorem wm_418 : Cond.methodLink "NodeServices$Network" 26 yCh_append ∈ wg := mem_wg (List.mem_append_right _ (List.mem_of_getElem? (i := 418) (by decide +kernel))) (by decide +kernel)
theorem wm_419 : Cond.instanceMethod yCh_append ∈ wg := mem_wg (List.mem_append_right _ (List.mem_of_getElem? (i := 419) (by decide +kernel))) (by decide +kernel)
theorem wm_420 : Cond.selects "NodeServices$Channel" yCh_append yCh_append ∈ wg := mem_wg (List.mem_append_right _ (List.mem_of_getElem? (i := 420) (by decide +kernel))) (by decide +kernel)
theorem wm_421 : Cond.code yCh_append cCh_append 2 none ∈ wg := mem_wg (List.mem_append_right _ (List.mem_of_getElem? (i := 421) (by decide +kernel))) (by decide +kernel)
theorem wm_425 : Cond.methodLink "NodeServices$TokenLock" 33 ⟨"NodeServices$TokenLock", "enter", "(I)V"⟩ ∈ wg := mem_wg (List.mem_append_right _ (List.mem_of_getElem? (i := 425) (by decide +kernel))) (by decide +kernel)
theorem wm_426 : Cond.sameMethod "NodeServices$TokenLock" "NodeServices$Lock" "enter" "(I)V" ∈ wg := mem_wg (List.mem_append_right _ (List.mem_of_getElem? (i := 426) (by decide +kernel))) (by decide +kernel)
theorem wm_428 : Cond.selects "NodeServices$TokenLock" ⟨"NodeServices$TokenLock", "enter", "(I)V"⟩ yLk_enter ∈ wg := mem_wg (List.mem_append_right _ (List.mem_of_getElem? (i := 428) (by decide +kernel))) (by decide +kernel)
theorem wm_429 : Cond.instanceMethod yLk_enter ∈ wg := mem_wg (List.mem_append_right _ (List.mem_of_getElem? (i := 429) (by decide +kernel))) (by decide +kernel)
theorem wm_430 : Cond.code yLk_enter cLk_enter 2 none ∈ wg := mem_wg (List.mem_append_right _ (List.mem_of_getElem? (i := 430) (by decide +kernel))) (by decide +kernel)
theorem wm_431 : Cond.methodLink "NodeServices$TokenLock" 40 ⟨"NodeServices$TokenLock", "sendToAllOthers", "(III)V"⟩ ∈ wg := mem_wg (List.mem_append_right _ (List.mem_of_getElem? (i := 431) (by decide +kernel))) (by decide +kernel)
theorem wm_432 : Cond.sameMethod "NodeServices$TokenLock" "NodeServices$Service" "sendToAllOthers" "(III)V" ∈ wg := mem_wg (List.mem_append_right _ (List.mem_of_getElem? (i := 432) (by decide +kernel))) (by decide +kernel)
theorem wm_433 : Cond.selects "NodeServices$TokenLock" ⟨"NodeServices$TokenLock", "sendToAllOthers", "(III)V"⟩ ySv_sendToAllOthers ∈ wg := mem_wg (List.mem_append_right _ (List.mem_of_getElem? (i := 433) (by decide +kernel))) (by decide +kernel)
theorem wm_437 : Cond.methodLink "NodeServices$TreeLock" 39 yRo_append ∈ wg := mem_wg (List.mem_append_right _ (List.mem_of_getElem? (i := 437) (by decide +kernel))) (by decide +kernel)
theorem wm_438 : Cond.instanceMethod yRo_append ∈ wg := mem_wg (List.mem_append_right _ (List.mem_of_getElem? (i := 438) (by decide +kernel))) (by decide +kernel)
theorem wm_439 : Cond.selects "NodeServices$NodeRow" yRo_append yRo_append ∈ wg := mem_wg (List.mem_append_right _ (List.mem_of_getElem? (i := 439) (by decide +kernel))) (by decide +kernel)
theorem wm_440 : Cond.code yRo_append cRo_append 2 none ∈ wg := mem_wg (List.mem_append_right _ (List.mem_of_getElem? (i := 440) (by decide +kernel))) (by decide +kernel)
theorem wm_441 : Cond.methodLink "NodeServices$TreeLock" 43 yTr_goOn ∈ wg := mem_wg (List.mem_append_right _ (List.mem_of_getElem? (i := 441) (by decide +kernel))) (by decide +kernel)
theorem wm_443 : Cond.instanceMethod yTr_goOn ∈ wg := mem_wg (List.mem_append_right _ (List.mem_of_getElem? (i := 443) (by decide +kernel))) (by decide +kernel)
theorem wm_444 : Cond.code yTr_goOn cTr_goOn 2 none ∈ wg := mem_wg (List.mem_append_right _ (List.mem_of_getElem? (i := 444) (by decide +kernel))) (by decide +kernel)
theorem wm_445 : Cond.methodLink "NodeServices$TreeLock" 52 yRo_isEmpty ∈ wg := mem_wg (List.mem_append_right _ (List.mem_of_getElem? (i := 445) (by decide +kernel))) (by decide +kernel)
theorem wm_446 : Cond.instanceMethod yRo_isEmpty ∈ wg := mem_wg (List.mem_append_right _ (List.mem_of_getElem? (i := 446) (by decide +kernel))) (by decide +kernel)
theorem wm_447 : Cond.selects "NodeServices$NodeRow" yRo_isEmpty yRo_isEmpty ∈ wg := mem_wg (List.mem_append_right _ (List.mem_of_getElem? (i := 447) (by decide +kernel))) (by decide +kernel)
theorem wm_448 : Cond.code yRo_isEmpty cRo_isEmpty 1 (some .boolean) ∈ wg := mem_wg (List.mem_append_right _ (List.mem_of_getElem? (i := 448) (by decide +kernel))) (by decide +kernel)
theorem wm_449 : Cond.methodLink "NodeServices$TreeLock" 56 yRo_takeHead ∈ wg := mem_wg (List.mem_append_right _ (List.mem_of_getElem? (i := 449) (by decide +kernel))) (by decide +kernel)
theorem wm_450 : Cond.instanceMethod yRo_takeHead ∈ wg := mem_wg (List.mem_append_right _ (List.mem_of_getElem? (i := 450) (by decide +kernel))) (by decide +kernel)
theorem wm_451 : Cond.selects "NodeServices$NodeRow" yRo_takeHead yRo_takeHead ∈ wg := mem_wg (List.mem_append_right _ (List.mem_of_getElem? (i := 451) (by decide +kernel))) (by decide +kernel)
theorem wm_452 : Cond.code yRo_takeHead cRo_takeHead 3 (some .int) ∈ wg := mem_wg (List.mem_append_right _ (List.mem_of_getElem? (i := 452) (by decide +kernel))) (by decide +kernel)
theorem wm_453 : Cond.methodLink "NodeServices$TreeLock" 60 yTr_serve ∈ wg := mem_wg (List.mem_append_right _ (List.mem_of_getElem? (i := 453) (by decide +kernel))) (by decide +kernel)
theorem wm_455 : Cond.instanceMethod yTr_serve ∈ wg := mem_wg (List.mem_append_right _ (List.mem_of_getElem? (i := 455) (by decide +kernel))) (by decide +kernel)
theorem wm_456 : Cond.code yTr_serve cTr_serve 3 none ∈ wg := mem_wg (List.mem_append_right _ (List.mem_of_getElem? (i := 456) (by decide +kernel))) (by decide +kernel)
theorem wm_457 : Cond.methodLink "NodeServices$TreeLock" 68 ⟨"NodeServices$TreeLock", "enter", "(I)V"⟩ ∈ wg := mem_wg (List.mem_append_right _ (List.mem_of_getElem? (i := 457) (by decide +kernel))) (by decide +kernel)
theorem wm_458 : Cond.sameMethod "NodeServices$TreeLock" "NodeServices$Lock" "enter" "(I)V" ∈ wg := mem_wg (List.mem_append_right _ (List.mem_of_getElem? (i := 458) (by decide +kernel))) (by decide +kernel)
theorem wm_459 : Cond.selects "NodeServices$TreeLock" ⟨"NodeServices$TreeLock", "enter", "(I)V"⟩ yLk_enter ∈ wg := mem_wg (List.mem_append_right _ (List.mem_of_getElem? (i := 459) (by decide +kernel))) (by decide +kernel)
theorem wm_460 : Cond.methodLink "NodeServices$TreeLock" 64 ⟨"NodeServices$TreeLock", "send", "(IIII)V"⟩ ∈ wg := mem_wg (List.mem_append_right _ (List.mem_of_getElem? (i := 460) (by decide +kernel))) (by decide +kernel)
theorem wm_461 : Cond.sameMethod "NodeServices$TreeLock" "NodeServices$Service" "send" "(IIII)V" ∈ wg := mem_wg (List.mem_append_right _ (List.mem_of_getElem? (i := 461) (by decide +kernel))) (by decide +kernel)
theorem wm_463 : Cond.selects "NodeServices$TreeLock" ⟨"NodeServices$TreeLock", "send", "(IIII)V"⟩ ySv_send ∈ wg := mem_wg (List.mem_append_right _ (List.mem_of_getElem? (i := 463) (by decide +kernel))) (by decide +kernel)
theorem wm_478 : Cond.methodLink "NodeServices$StampLock" 32 ⟨"NodeServices$StampLock", "send", "(IIII)V"⟩ ∈ wg := mem_wg (List.mem_append_right _ (List.mem_of_getElem? (i := 478) (by decide +kernel))) (by decide +kernel)
theorem wm_479 : Cond.sameMethod "NodeServices$StampLock" "NodeServices$Service" "send" "(IIII)V" ∈ wg := mem_wg (List.mem_append_right _ (List.mem_of_getElem? (i := 479) (by decide +kernel))) (by decide +kernel)
theorem wm_480 : Cond.selects "NodeServices$StampLock" ⟨"NodeServices$StampLock", "send", "(IIII)V"⟩ ySv_send ∈ wg := mem_wg (List.mem_append_right _ (List.mem_of_getElem? (i := 480) (by decide +kernel))) (by decide +kernel)
theorem wm_484 : Cond.methodLink "NodeServices$TokenLock" 44 yRo_contains ∈ wg := mem_wg (List.mem_append_right _ (List.mem_of_getElem? (i := 484) (by decide +kernel))) (by decide +kernel)
theorem wm_485 : Cond.instanceMethod yRo_contains ∈ wg := mem_wg (List.mem_append_right _ (List.mem_of_getElem? (i := 485) (by decide +kernel))) (by decide +kernel)
theorem wm_486 : Cond.selects "NodeServices$NodeRow" yRo_contains yRo_contains ∈ wg := mem_wg (List.mem_append_right _ (List.mem_of_getElem? (i := 486) (by decide +kernel))) (by decide +kernel)
theorem wm_487 : Cond.code yRo_contains cRo_contains 3 (some .boolean) ∈ wg := mem_wg (List.mem_append_right _ (List.mem_of_getElem? (i := 487) (by decide +kernel))) (by decide +kernel)
theorem wm_488 : Cond.methodLink "NodeServices$TokenLock" 48 yTk_isOwed ∈ wg := mem_wg (List.mem_append_right _ (List.mem_of_getElem? (i := 488) (by decide +kernel))) (by decide +kernel)
theorem wm_490 : Cond.instanceMethod yTk_isOwed ∈ wg := mem_wg (List.mem_append_right _ (List.mem_of_getElem? (i := 490) (by decide +kernel))) (by decide +kernel)
theorem wm_491 : Cond.code yTk_isOwed cTk_isOwed 3 (some .boolean) ∈ wg := mem_wg (List.mem_append_right _ (List.mem_of_getElem? (i := 491) (by decide +kernel))) (by decide +kernel)
theorem wm_492 : Cond.methodLink "NodeServices$TokenLock" 52 yRo_append ∈ wg := mem_wg (List.mem_append_right _ (List.mem_of_getElem? (i := 492) (by decide +kernel))) (by decide +kernel)
theorem wm_493 : Cond.methodLink "NodeServices$TokenLock" 55 yRo_isEmpty ∈ wg := mem_wg (List.mem_append_right _ (List.mem_of_getElem? (i := 493) (by decide +kernel))) (by decide +kernel)
theorem wm_494 : Cond.methodLink "NodeServices$TokenLock" 59 yRo_takeHead ∈ wg := mem_wg (List.mem_append_right _ (List.mem_of_getElem? (i := 494) (by decide +kernel))) (by decide +kernel)
theorem wm_495 : Cond.methodLink "NodeServices$TokenLock" 63 yTk_passToken ∈ wg := mem_wg (List.mem_append_right _ (List.mem_of_getElem? (i := 495) (by decide +kernel))) (by decide +kernel)
theorem wm_497 : Cond.instanceMethod yTk_passToken ∈ wg := mem_wg (List.mem_append_right _ (List.mem_of_getElem? (i := 497) (by decide +kernel))) (by decide +kernel)
theorem wm_498 : Cond.code yTk_passToken cTk_passToken 3 none ∈ wg := mem_wg (List.mem_append_right _ (List.mem_of_getElem? (i := 498) (by decide +kernel))) (by decide +kernel)
theorem wm_499 : Cond.methodLink "NodeServices$TokenLock" 84 ⟨"NodeServices$TokenLock", "send", "(IIII)V"⟩ ∈ wg := mem_wg (List.mem_append_right _ (List.mem_of_getElem? (i := 499) (by decide +kernel))) (by decide +kernel)
theorem wm_500 : Cond.sameMethod "NodeServices$TokenLock" "NodeServices$Service" "send" "(IIII)V" ∈ wg := mem_wg (List.mem_append_right _ (List.mem_of_getElem? (i := 500) (by decide +kernel))) (by decide +kernel)
theorem wm_501 : Cond.selects "NodeServices$TokenLock" ⟨"NodeServices$TokenLock", "send", "(IIII)V"⟩ ySv_send ∈ wg := mem_wg (List.mem_append_right _ (List.mem_of_getElem? (i := 501) (by decide +kernel))) (by decide +kernel)
theorem wm_514 : Cond.instanceMethod yEl_stand ∈ wg := mem_wg (List.mem_append_right _ (List.mem_of_getElem? (i := 514) (by decide +kernel))) (by decide +kernel)
theorem wm_515 : Cond.selects "NodeServices$Election" yEl_stand yEl_stand ∈ wg := mem_wg (List.mem_append_right _ (List.mem_of_getElem? (i := 515) (by decide +kernel))) (by decide +kernel)
theorem wm_516 : Cond.code yEl_stand cEl_stand 2 none ∈ wg := mem_wg (List.mem_append_right _ (List.mem_of_getElem? (i := 516) (by decide +kernel))) (by decide +kernel)
theorem wm_517 : Cond.methodLink "NodeServices$Election" 28 yEl_sendOn ∈ wg := mem_wg (List.mem_append_right _ (List.mem_of_getElem? (i := 517) (by decide +kernel))) (by decide +kernel)
theorem wm_519 : Cond.instanceMethod yEl_sendOn ∈ wg := mem_wg (List.mem_append_right _ (List.mem_of_getElem? (i := 519) (by decide +kernel))) (by decide +kernel)
theorem wm_520 : Cond.code yEl_sendOn cEl_sendOn 4 none ∈ wg := mem_wg (List.mem_append_right _ (List.mem_of_getElem? (i := 520) (by decide +kernel))) (by decide +kernel)
theorem wm_521 : Cond.methodLink "NodeServices$Election" 52 ⟨"NodeServices$Election", "send", "(IIII)V"⟩ ∈ wg := mem_wg (List.mem_append_right _ (List.mem_of_getElem? (i := 521) (by decide +kernel))) (by decide +kernel)
theorem wm_522 : Cond.sameMethod "NodeServices$Election" "NodeServices$Service" "send" "(IIII)V" ∈ wg := mem_wg (List.mem_append_right _ (List.mem_of_getElem? (i := 522) (by decide +kernel))) (by decide +kernel)
theorem wm_523 : Cond.selects "NodeServices$Election" ⟨"NodeServices$Election", "send", "(IIII)V"⟩ ySv_send ∈ wg := mem_wg (List.mem_append_right _ (List.mem_of_getElem? (i := 523) (by decide +kernel))) (by decide +kernel)
theorem wm_535 : Cond.methodLink "NodeServices$Work" 26 yWk_isEngaged ∈ wg := mem_wg (List.mem_append_right _ (List.mem_of_getElem? (i := 535) (by decide +kernel))) (by decide +kernel)
theorem wm_537 : Cond.instanceMethod yWk_isEngaged ∈ wg := mem_wg (List.mem_append_right _ (List.mem_of_getElem? (i := 537) (by decide +kernel))) (by decide +kernel)
theorem wm_538 : Cond.code yWk_isEngaged cWk_isEngaged 2 (some .boolean) ∈ wg := mem_wg (List.mem_append_right _ (List.mem_of_getElem? (i := 538) (by decide +kernel))) (by decide +kernel)
theorem wm_564 : Cond.methodLink "NodeServices$Work" 30 ⟨"NodeServices$Work", "send", "(IIII)V"⟩ ∈ wg := mem_wg (List.mem_append_right _ (List.mem_of_getElem? (i := 564) (by decide +kernel))) (by decide +kernel)
theorem wm_565 : Cond.sameMethod "NodeServices$Work" "NodeServices$Service" "send" "(IIII)V" ∈ wg := mem_wg (List.mem_append_right _ (List.mem_of_getElem? (i := 565) (by decide +kernel))) (by decide +kernel)
theorem wm_566 : Cond.selects "NodeServices$Work" ⟨"NodeServices$Work", "send", "(IIII)V"⟩ ySv_send ∈ wg := mem_wg (List.mem_append_right _ (List.mem_of_getElem? (i := 566) (by decide +kernel))) (by decide +kernel)
theorem wm_579 : Cond.methodLink "NodeServices$Work" 34 yWk_settle ∈ wg := mem_wg (List.mem_append_right _ (List.mem_of_getElem? (i := 579) (by decide +kernel))) (by decide +kernel)
theorem wm_581 : Cond.instanceMethod yWk_settle ∈ wg := mem_wg (List.mem_append_right _ (List.mem_of_getElem? (i := 581) (by decide +kernel))) (by decide +kernel)
theorem wm_582 : Cond.code yWk_settle cWk_settle 3 none ∈ wg := mem_wg (List.mem_append_right _ (List.mem_of_getElem? (i := 582) (by decide +kernel))) (by decide +kernel)
theorem wm_618 : Cond.methodLink "NodeServices$Election" 41 yEl_takeElect ∈ wg := mem_wg (List.mem_append_right _ (List.mem_of_getElem? (i := 618) (by decide +kernel))) (by decide +kernel)
theorem wm_620 : Cond.instanceMethod yEl_takeElect ∈ wg := mem_wg (List.mem_append_right _ (List.mem_of_getElem? (i := 620) (by decide +kernel))) (by decide +kernel)
theorem wm_621 : Cond.code yEl_takeElect cEl_takeElect 3 none ∈ wg := mem_wg (List.mem_append_right _ (List.mem_of_getElem? (i := 621) (by decide +kernel))) (by decide +kernel)
theorem wm_622 : Cond.methodLink "NodeServices$Election" 48 yEl_stand ∈ wg := mem_wg (List.mem_append_right _ (List.mem_of_getElem? (i := 622) (by decide +kernel))) (by decide +kernel)
theorem wm_623 : Cond.methodLink "NodeServices$Election" 45 yEl_takeLeader ∈ wg := mem_wg (List.mem_append_right _ (List.mem_of_getElem? (i := 623) (by decide +kernel))) (by decide +kernel)
theorem wm_625 : Cond.instanceMethod yEl_takeLeader ∈ wg := mem_wg (List.mem_append_right _ (List.mem_of_getElem? (i := 625) (by decide +kernel))) (by decide +kernel)
theorem wm_626 : Cond.code yEl_takeLeader cEl_takeLeader 3 none ∈ wg := mem_wg (List.mem_append_right _ (List.mem_of_getElem? (i := 626) (by decide +kernel))) (by decide +kernel)
theorem wm_630 : Cond.methodLink "NodeServices$StampLock" 45 ySt_takeRequest ∈ wg := mem_wg (List.mem_append_right _ (List.mem_of_getElem? (i := 630) (by decide +kernel))) (by decide +kernel)
theorem wm_632 : Cond.instanceMethod ySt_takeRequest ∈ wg := mem_wg (List.mem_append_right _ (List.mem_of_getElem? (i := 632) (by decide +kernel))) (by decide +kernel)
theorem wm_633 : Cond.code ySt_takeRequest cSt_takeRequest 4 none ∈ wg := mem_wg (List.mem_append_right _ (List.mem_of_getElem? (i := 633) (by decide +kernel))) (by decide +kernel)
theorem wm_634 : Cond.methodLink "NodeServices$StampLock" 52 Lib.Math.max.name ∈ wg := mem_wg (List.mem_append_right _ (List.mem_of_getElem? (i := 634) (by decide +kernel))) (by decide +kernel)
theorem wm_635 : Cond.static Lib.Math.max.name ∈ wg := mem_wg (List.mem_append_right _ (List.mem_of_getElem? (i := 635) (by decide +kernel))) (by decide +kernel)
theorem wm_636 : Cond.code Lib.Math.max.name Lib.Math.max.code 2 (some .int) ∈ wg := mem_wg (List.mem_append_right _ (List.mem_of_getElem? (i := 636) (by decide +kernel))) (by decide +kernel)
theorem wm_637 : Cond.methodLink "NodeServices$StampLock" 58 ySt_isBefore ∈ wg := mem_wg (List.mem_append_right _ (List.mem_of_getElem? (i := 637) (by decide +kernel))) (by decide +kernel)
theorem wm_639 : Cond.instanceMethod ySt_isBefore ∈ wg := mem_wg (List.mem_append_right _ (List.mem_of_getElem? (i := 639) (by decide +kernel))) (by decide +kernel)
theorem wm_640 : Cond.code ySt_isBefore cSt_isBefore 4 (some .boolean) ∈ wg := mem_wg (List.mem_append_right _ (List.mem_of_getElem? (i := 640) (by decide +kernel))) (by decide +kernel)
theorem wm_641 : Cond.methodLink "NodeServices$StampLock" 48 ySt_takeReply ∈ wg := mem_wg (List.mem_append_right _ (List.mem_of_getElem? (i := 641) (by decide +kernel))) (by decide +kernel)
theorem wm_643 : Cond.instanceMethod ySt_takeReply ∈ wg := mem_wg (List.mem_append_right _ (List.mem_of_getElem? (i := 643) (by decide +kernel))) (by decide +kernel)
theorem wm_644 : Cond.code ySt_takeReply cSt_takeReply 2 none ∈ wg := mem_wg (List.mem_append_right _ (List.mem_of_getElem? (i := 644) (by decide +kernel))) (by decide +kernel)
theorem wm_645 : Cond.methodLink "NodeServices$StampLock" 62 ⟨"NodeServices$StampLock", "enter", "(I)V"⟩ ∈ wg := mem_wg (List.mem_append_right _ (List.mem_of_getElem? (i := 645) (by decide +kernel))) (by decide +kernel)
theorem wm_646 : Cond.sameMethod "NodeServices$StampLock" "NodeServices$Lock" "enter" "(I)V" ∈ wg := mem_wg (List.mem_append_right _ (List.mem_of_getElem? (i := 646) (by decide +kernel))) (by decide +kernel)
theorem wm_647 : Cond.selects "NodeServices$StampLock" ⟨"NodeServices$StampLock", "enter", "(I)V"⟩ yLk_enter ∈ wg := mem_wg (List.mem_append_right _ (List.mem_of_getElem? (i := 647) (by decide +kernel))) (by decide +kernel)
theorem wm_651 : Cond.methodLink "NodeServices$TokenLock" 75 yTk_takeRequest ∈ wg := mem_wg (List.mem_append_right _ (List.mem_of_getElem? (i := 651) (by decide +kernel))) (by decide +kernel)
theorem wm_653 : Cond.instanceMethod yTk_takeRequest ∈ wg := mem_wg (List.mem_append_right _ (List.mem_of_getElem? (i := 653) (by decide +kernel))) (by decide +kernel)
theorem wm_654 : Cond.code yTk_takeRequest cTk_takeRequest 4 none ∈ wg := mem_wg (List.mem_append_right _ (List.mem_of_getElem? (i := 654) (by decide +kernel))) (by decide +kernel)
theorem wm_655 : Cond.methodLink "NodeServices$TokenLock" 78 Lib.Math.max.name ∈ wg := mem_wg (List.mem_append_right _ (List.mem_of_getElem? (i := 655) (by decide +kernel))) (by decide +kernel)
theorem wm_662 : Cond.methodLink "NodeServices$Work" 43 yWk_takeWork ∈ wg := mem_wg (List.mem_append_right _ (List.mem_of_getElem? (i := 662) (by decide +kernel))) (by decide +kernel)
theorem wm_664 : Cond.instanceMethod yWk_takeWork ∈ wg := mem_wg (List.mem_append_right _ (List.mem_of_getElem? (i := 664) (by decide +kernel))) (by decide +kernel)
theorem wm_665 : Cond.code yWk_takeWork cWk_takeWork 3 none ∈ wg := mem_wg (List.mem_append_right _ (List.mem_of_getElem? (i := 665) (by decide +kernel))) (by decide +kernel)
theorem wp_2 : Cond.selects "NodeServices$TreeLock" yTr_goOn yTr_goOn ∈ wg := mem_wg (List.mem_append_left _ (List.mem_of_getElem? (i := 2) (by decide +kernel))) (by decide +kernel)
theorem wp_3 : Cond.selects "NodeServices$TreeLock" yTr_serve yTr_serve ∈ wg := mem_wg (List.mem_append_left _ (List.mem_of_getElem? (i := 3) (by decide +kernel))) (by decide +kernel)
theorem wp_4 : Cond.selects "NodeServices$TokenLock" yTk_isOwed yTk_isOwed ∈ wg := mem_wg (List.mem_append_left _ (List.mem_of_getElem? (i := 4) (by decide +kernel))) (by decide +kernel)
theorem wp_5 : Cond.selects "NodeServices$TokenLock" yTk_passToken yTk_passToken ∈ wg := mem_wg (List.mem_append_left _ (List.mem_of_getElem? (i := 5) (by decide +kernel))) (by decide +kernel)
theorem wp_6 : Cond.selects "NodeServices$Election" yEl_sendOn yEl_sendOn ∈ wg := mem_wg (List.mem_append_left _ (List.mem_of_getElem? (i := 6) (by decide +kernel))) (by decide +kernel)
theorem wp_7 : Cond.selects "NodeServices$Work" yWk_isEngaged yWk_isEngaged ∈ wg := mem_wg (List.mem_append_left _ (List.mem_of_getElem? (i := 7) (by decide +kernel))) (by decide +kernel)
theorem wp_8 : Cond.selects "NodeServices$Work" yWk_settle yWk_settle ∈ wg := mem_wg (List.mem_append_left _ (List.mem_of_getElem? (i := 8) (by decide +kernel))) (by decide +kernel)
theorem wp_9 : Cond.selects "NodeServices$Election" yEl_takeElect yEl_takeElect ∈ wg := mem_wg (List.mem_append_left _ (List.mem_of_getElem? (i := 9) (by decide +kernel))) (by decide +kernel)
theorem wp_10 : Cond.selects "NodeServices$Election" yEl_takeLeader yEl_takeLeader ∈ wg := mem_wg (List.mem_append_left _ (List.mem_of_getElem? (i := 10) (by decide +kernel))) (by decide +kernel)
theorem wp_11 : Cond.selects "NodeServices$StampLock" ySt_takeRequest ySt_takeRequest ∈ wg := mem_wg (List.mem_append_left _ (List.mem_of_getElem? (i := 11) (by decide +kernel))) (by decide +kernel)
theorem wp_12 : Cond.selects "NodeServices$StampLock" ySt_isBefore ySt_isBefore ∈ wg := mem_wg (List.mem_append_left _ (List.mem_of_getElem? (i := 12) (by decide +kernel))) (by decide +kernel)
theorem wp_13 : Cond.selects "NodeServices$StampLock" ySt_takeReply ySt_takeReply ∈ wg := mem_wg (List.mem_append_left _ (List.mem_of_getElem? (i := 13) (by decide +kernel))) (by decide +kernel)
theorem wp_14 : Cond.selects "NodeServices$TokenLock" yTk_takeRequest yTk_takeRequest ∈ wg := mem_wg (List.mem_append_left _ (List.mem_of_getElem? (i := 14) (by decide +kernel))) (by decide +kernel)
theorem wp_15 : Cond.selects "NodeServices$Work" yWk_takeWork yWk_takeWork ∈ wg := mem_wg (List.mem_append_left _ (List.mem_of_getElem? (i := 15) (by decide +kernel))) (by decide +kernel)
theorem dMs_init_0 : decode cMs_init 0 = .ok (.aload_n 0, 1) := by decide +kernel
theorem dMs_init_1 : decode cMs_init 1 = .ok (.invokespecial 1, 3) := by decide +kernel
theorem dMs_init_4 : decode cMs_init 4 = .ok (.aload_n 0, 1) := by decide +kernel
theorem dMs_init_5 : decode cMs_init 5 = .ok (.iload_n 1, 1) := by decide +kernel
theorem dMs_init_6 : decode cMs_init 6 = .ok (.putfield 7, 3) := by decide +kernel
theorem dMs_init_9 : decode cMs_init 9 = .ok (.aload_n 0, 1) := by decide +kernel
theorem dMs_init_10 : decode cMs_init 10 = .ok (.iload_n 2, 1) := by decide +kernel
theorem dMs_init_11 : decode cMs_init 11 = .ok (.putfield 13, 3) := by decide +kernel
theorem dMs_init_14 : decode cMs_init 14 = .ok (.aload_n 0, 1) := by decide +kernel
theorem dMs_init_15 : decode cMs_init 15 = .ok (.iload_n 3, 1) := by decide +kernel
theorem dMs_init_16 : decode cMs_init 16 = .ok (.putfield 16, 3) := by decide +kernel
theorem dMs_init_19 : decode cMs_init 19 = .ok (.return_, 1) := by decide +kernel
theorem dCh_append_0 : decode cCh_append 0 = .ok (.aload_n 0, 1) := by decide +kernel
theorem dCh_append_1 : decode cCh_append 1 = .ok (.getfield 7, 3) := by decide +kernel
theorem dCh_append_4 : decode cCh_append 4 = .ok (.sipush 1024, 3) := by decide +kernel
theorem dCh_append_7 : decode cCh_append 7 = .ok (.if_icmp .lt 4, 3) := by decide +kernel
theorem dCh_append_10 : decode cCh_append 10 = .ok (.return_, 1) := by decide +kernel
theorem dCh_append_11 : decode cCh_append 11 = .ok (.aload_n 0, 1) := by decide +kernel
theorem dCh_append_12 : decode cCh_append 12 = .ok (.getfield 13, 3) := by decide +kernel
theorem dCh_append_15 : decode cCh_append 15 = .ok (.ifnonnull 11, 3) := by decide +kernel
theorem dCh_append_18 : decode cCh_append 18 = .ok (.aload_n 0, 1) := by decide +kernel
theorem dCh_append_19 : decode cCh_append 19 = .ok (.aload_n 1, 1) := by decide +kernel
theorem dCh_append_20 : decode cCh_append 20 = .ok (.putfield 17, 3) := by decide +kernel
theorem dCh_append_23 : decode cCh_append 23 = .ok (.goto 11, 3) := by decide +kernel
theorem dCh_append_26 : decode cCh_append 26 = .ok (.aload_n 0, 1) := by decide +kernel
theorem dCh_append_27 : decode cCh_append 27 = .ok (.getfield 13, 3) := by decide +kernel
theorem dCh_append_30 : decode cCh_append 30 = .ok (.aload_n 1, 1) := by decide +kernel
theorem dCh_append_31 : decode cCh_append 31 = .ok (.putfield 20, 3) := by decide +kernel
theorem dCh_append_34 : decode cCh_append 34 = .ok (.aload_n 0, 1) := by decide +kernel
theorem dCh_append_35 : decode cCh_append 35 = .ok (.aload_n 1, 1) := by decide +kernel
theorem dCh_append_36 : decode cCh_append 36 = .ok (.putfield 13, 3) := by decide +kernel
theorem dCh_append_39 : decode cCh_append 39 = .ok (.aload_n 0, 1) := by decide +kernel
theorem dCh_append_40 : decode cCh_append 40 = .ok (.dup, 1) := by decide +kernel
theorem dCh_append_41 : decode cCh_append 41 = .ok (.getfield 7, 3) := by decide +kernel
theorem dCh_append_44 : decode cCh_append 44 = .ok (.iconst 1, 1) := by decide +kernel
theorem dCh_append_45 : decode cCh_append 45 = .ok (.iadd, 1) := by decide +kernel
theorem dCh_append_46 : decode cCh_append 46 = .ok (.putfield 7, 3) := by decide +kernel
theorem dCh_append_49 : decode cCh_append 49 = .ok (.return_, 1) := by decide +kernel
theorem dCh_takeHead_0 : decode cCh_takeHead 0 = .ok (.aload_n 0, 1) := by decide +kernel
theorem dCh_takeHead_1 : decode cCh_takeHead 1 = .ok (.getfield 17, 3) := by decide +kernel
theorem dCh_takeHead_4 : decode cCh_takeHead 4 = .ok (.astore_n 1, 1) := by decide +kernel
theorem dCh_takeHead_5 : decode cCh_takeHead 5 = .ok (.aload_n 1, 1) := by decide +kernel
theorem dCh_takeHead_6 : decode cCh_takeHead 6 = .ok (.ifnonnull 5, 3) := by decide +kernel
theorem dCh_takeHead_9 : decode cCh_takeHead 9 = .ok (.aconst_null, 1) := by decide +kernel
theorem dCh_takeHead_10 : decode cCh_takeHead 10 = .ok (.areturn, 1) := by decide +kernel
theorem dCh_takeHead_11 : decode cCh_takeHead 11 = .ok (.aload_n 0, 1) := by decide +kernel
theorem dCh_takeHead_12 : decode cCh_takeHead 12 = .ok (.aload_n 1, 1) := by decide +kernel
theorem dCh_takeHead_13 : decode cCh_takeHead 13 = .ok (.getfield 20, 3) := by decide +kernel
theorem dCh_takeHead_16 : decode cCh_takeHead 16 = .ok (.putfield 17, 3) := by decide +kernel
theorem dCh_takeHead_19 : decode cCh_takeHead 19 = .ok (.aload_n 0, 1) := by decide +kernel
theorem dCh_takeHead_20 : decode cCh_takeHead 20 = .ok (.getfield 17, 3) := by decide +kernel
theorem dCh_takeHead_23 : decode cCh_takeHead 23 = .ok (.ifnonnull 8, 3) := by decide +kernel
theorem dCh_takeHead_26 : decode cCh_takeHead 26 = .ok (.aload_n 0, 1) := by decide +kernel
theorem dCh_takeHead_27 : decode cCh_takeHead 27 = .ok (.aconst_null, 1) := by decide +kernel
theorem dCh_takeHead_28 : decode cCh_takeHead 28 = .ok (.putfield 13, 3) := by decide +kernel
theorem dCh_takeHead_31 : decode cCh_takeHead 31 = .ok (.aload_n 0, 1) := by decide +kernel
theorem dCh_takeHead_32 : decode cCh_takeHead 32 = .ok (.dup, 1) := by decide +kernel
theorem dCh_takeHead_33 : decode cCh_takeHead 33 = .ok (.getfield 7, 3) := by decide +kernel
theorem dCh_takeHead_36 : decode cCh_takeHead 36 = .ok (.iconst 1, 1) := by decide +kernel
theorem dCh_takeHead_37 : decode cCh_takeHead 37 = .ok (.isub, 1) := by decide +kernel
theorem dCh_takeHead_38 : decode cCh_takeHead 38 = .ok (.putfield 7, 3) := by decide +kernel
theorem dCh_takeHead_41 : decode cCh_takeHead 41 = .ok (.aload_n 1, 1) := by decide +kernel
theorem dCh_takeHead_42 : decode cCh_takeHead 42 = .ok (.areturn, 1) := by decide +kernel
theorem dRo_isEmpty_0 : decode cRo_isEmpty 0 = .ok (.aload_n 0, 1) := by decide +kernel
theorem dRo_isEmpty_1 : decode cRo_isEmpty 1 = .ok (.getfield 15, 3) := by decide +kernel
theorem dRo_isEmpty_4 : decode cRo_isEmpty 4 = .ok (.ifCond .ne 7, 3) := by decide +kernel
theorem dRo_isEmpty_7 : decode cRo_isEmpty 7 = .ok (.iconst 1, 1) := by decide +kernel
theorem dRo_isEmpty_8 : decode cRo_isEmpty 8 = .ok (.goto 4, 3) := by decide +kernel
theorem dRo_isEmpty_11 : decode cRo_isEmpty 11 = .ok (.iconst 0, 1) := by decide +kernel
theorem dRo_isEmpty_12 : decode cRo_isEmpty 12 = .ok (.ireturn, 1) := by decide +kernel
theorem dRo_contains_0 : decode cRo_contains 0 = .ok (.iconst 0, 1) := by decide +kernel
theorem dRo_contains_1 : decode cRo_contains 1 = .ok (.istore_n 2, 1) := by decide +kernel
theorem dRo_contains_2 : decode cRo_contains 2 = .ok (.iload_n 2, 1) := by decide +kernel
theorem dRo_contains_3 : decode cRo_contains 3 = .ok (.aload_n 0, 1) := by decide +kernel
theorem dRo_contains_4 : decode cRo_contains 4 = .ok (.getfield 15, 3) := by decide +kernel
theorem dRo_contains_7 : decode cRo_contains 7 = .ok (.if_icmp .ge 21, 3) := by decide +kernel
theorem dRo_contains_10 : decode cRo_contains 10 = .ok (.aload_n 0, 1) := by decide +kernel
theorem dRo_contains_11 : decode cRo_contains 11 = .ok (.getfield 9, 3) := by decide +kernel
theorem dRo_contains_14 : decode cRo_contains 14 = .ok (.iload_n 2, 1) := by decide +kernel
theorem dRo_contains_15 : decode cRo_contains 15 = .ok (.iaload, 1) := by decide +kernel
theorem dRo_contains_16 : decode cRo_contains 16 = .ok (.iload_n 1, 1) := by decide +kernel
theorem dRo_contains_17 : decode cRo_contains 17 = .ok (.if_icmp .ne 5, 3) := by decide +kernel
theorem dRo_contains_20 : decode cRo_contains 20 = .ok (.iconst 1, 1) := by decide +kernel
theorem dRo_contains_21 : decode cRo_contains 21 = .ok (.ireturn, 1) := by decide +kernel
theorem dRo_contains_22 : decode cRo_contains 22 = .ok (.iinc 2 1, 3) := by decide +kernel
theorem dRo_contains_25 : decode cRo_contains 25 = .ok (.goto (-23), 3) := by decide +kernel
theorem dRo_contains_28 : decode cRo_contains 28 = .ok (.iconst 0, 1) := by decide +kernel
theorem dRo_contains_29 : decode cRo_contains 29 = .ok (.ireturn, 1) := by decide +kernel
theorem dRo_append_0 : decode cRo_append 0 = .ok (.aload_n 0, 1) := by decide +kernel
theorem dRo_append_1 : decode cRo_append 1 = .ok (.getfield 15, 3) := by decide +kernel
theorem dRo_append_4 : decode cRo_append 4 = .ok (.iconst 4, 1) := by decide +kernel
theorem dRo_append_5 : decode cRo_append 5 = .ok (.if_icmp .ge 23, 3) := by decide +kernel
theorem dRo_append_8 : decode cRo_append 8 = .ok (.aload_n 0, 1) := by decide +kernel
theorem dRo_append_9 : decode cRo_append 9 = .ok (.getfield 9, 3) := by decide +kernel
theorem dRo_append_12 : decode cRo_append 12 = .ok (.aload_n 0, 1) := by decide +kernel
theorem dRo_append_13 : decode cRo_append 13 = .ok (.getfield 15, 3) := by decide +kernel
theorem dRo_append_16 : decode cRo_append 16 = .ok (.iload_n 1, 1) := by decide +kernel
theorem dRo_append_17 : decode cRo_append 17 = .ok (.iastore, 1) := by decide +kernel
theorem dRo_append_18 : decode cRo_append 18 = .ok (.aload_n 0, 1) := by decide +kernel
theorem dRo_append_19 : decode cRo_append 19 = .ok (.dup, 1) := by decide +kernel
theorem dRo_append_20 : decode cRo_append 20 = .ok (.getfield 15, 3) := by decide +kernel
theorem dRo_append_23 : decode cRo_append 23 = .ok (.iconst 1, 1) := by decide +kernel
theorem dRo_append_24 : decode cRo_append 24 = .ok (.iadd, 1) := by decide +kernel
theorem dRo_append_25 : decode cRo_append 25 = .ok (.putfield 15, 3) := by decide +kernel
theorem dRo_append_28 : decode cRo_append 28 = .ok (.return_, 1) := by decide +kernel
theorem dRo_takeHead_0 : decode cRo_takeHead 0 = .ok (.aload_n 0, 1) := by decide +kernel
theorem dRo_takeHead_1 : decode cRo_takeHead 1 = .ok (.getfield 9, 3) := by decide +kernel
theorem dRo_takeHead_4 : decode cRo_takeHead 4 = .ok (.iconst 0, 1) := by decide +kernel
theorem dRo_takeHead_5 : decode cRo_takeHead 5 = .ok (.iaload, 1) := by decide +kernel
theorem dRo_takeHead_6 : decode cRo_takeHead 6 = .ok (.istore_n 1, 1) := by decide +kernel
theorem dRo_takeHead_7 : decode cRo_takeHead 7 = .ok (.iconst 1, 1) := by decide +kernel
theorem dRo_takeHead_8 : decode cRo_takeHead 8 = .ok (.istore_n 2, 1) := by decide +kernel
theorem dRo_takeHead_9 : decode cRo_takeHead 9 = .ok (.iload_n 2, 1) := by decide +kernel
theorem dRo_takeHead_10 : decode cRo_takeHead 10 = .ok (.aload_n 0, 1) := by decide +kernel
theorem dRo_takeHead_11 : decode cRo_takeHead 11 = .ok (.getfield 15, 3) := by decide +kernel
theorem dRo_takeHead_14 : decode cRo_takeHead 14 = .ok (.if_icmp .ge 23, 3) := by decide +kernel
theorem dRo_takeHead_17 : decode cRo_takeHead 17 = .ok (.aload_n 0, 1) := by decide +kernel
theorem dRo_takeHead_18 : decode cRo_takeHead 18 = .ok (.getfield 9, 3) := by decide +kernel
theorem dRo_takeHead_21 : decode cRo_takeHead 21 = .ok (.iload_n 2, 1) := by decide +kernel
theorem dRo_takeHead_22 : decode cRo_takeHead 22 = .ok (.iconst 1, 1) := by decide +kernel
theorem dRo_takeHead_23 : decode cRo_takeHead 23 = .ok (.isub, 1) := by decide +kernel
theorem dRo_takeHead_24 : decode cRo_takeHead 24 = .ok (.aload_n 0, 1) := by decide +kernel
theorem dRo_takeHead_25 : decode cRo_takeHead 25 = .ok (.getfield 9, 3) := by decide +kernel
theorem dRo_takeHead_28 : decode cRo_takeHead 28 = .ok (.iload_n 2, 1) := by decide +kernel
theorem dRo_takeHead_29 : decode cRo_takeHead 29 = .ok (.iaload, 1) := by decide +kernel
theorem dRo_takeHead_30 : decode cRo_takeHead 30 = .ok (.iastore, 1) := by decide +kernel
theorem dRo_takeHead_31 : decode cRo_takeHead 31 = .ok (.iinc 2 1, 3) := by decide +kernel
theorem dRo_takeHead_34 : decode cRo_takeHead 34 = .ok (.goto (-25), 3) := by decide +kernel
theorem dRo_takeHead_37 : decode cRo_takeHead 37 = .ok (.aload_n 0, 1) := by decide +kernel
theorem dRo_takeHead_38 : decode cRo_takeHead 38 = .ok (.getfield 15, 3) := by decide +kernel
theorem dRo_takeHead_41 : decode cRo_takeHead 41 = .ok (.ifCond .le 13, 3) := by decide +kernel
theorem dRo_takeHead_44 : decode cRo_takeHead 44 = .ok (.aload_n 0, 1) := by decide +kernel
theorem dRo_takeHead_45 : decode cRo_takeHead 45 = .ok (.dup, 1) := by decide +kernel
theorem dRo_takeHead_46 : decode cRo_takeHead 46 = .ok (.getfield 15, 3) := by decide +kernel
theorem dRo_takeHead_49 : decode cRo_takeHead 49 = .ok (.iconst 1, 1) := by decide +kernel
theorem dRo_takeHead_50 : decode cRo_takeHead 50 = .ok (.isub, 1) := by decide +kernel
theorem dRo_takeHead_51 : decode cRo_takeHead 51 = .ok (.putfield 15, 3) := by decide +kernel
theorem dRo_takeHead_54 : decode cRo_takeHead 54 = .ok (.iload_n 1, 1) := by decide +kernel
theorem dRo_takeHead_55 : decode cRo_takeHead 55 = .ok (.ireturn, 1) := by decide +kernel
theorem dNw_channel_0 : decode cNw_channel 0 = .ok (.aload_n 0, 1) := by decide +kernel
theorem dNw_channel_1 : decode cNw_channel 1 = .ok (.getfield 11, 3) := by decide +kernel
theorem dNw_channel_4 : decode cNw_channel 4 = .ok (.iload_n 1, 1) := by decide +kernel
theorem dNw_channel_5 : decode cNw_channel 5 = .ok (.iconst 4, 1) := by decide +kernel
theorem dNw_channel_6 : decode cNw_channel 6 = .ok (.imul, 1) := by decide +kernel
theorem dNw_channel_7 : decode cNw_channel 7 = .ok (.iload_n 2, 1) := by decide +kernel
theorem dNw_channel_8 : decode cNw_channel 8 = .ok (.iadd, 1) := by decide +kernel
theorem dNw_channel_9 : decode cNw_channel 9 = .ok (.aaload, 1) := by decide +kernel
theorem dNw_channel_10 : decode cNw_channel 10 = .ok (.areturn, 1) := by decide +kernel
theorem dNw_post_0 : decode cNw_post 0 = .ok (.aload_n 0, 1) := by decide +kernel
theorem dNw_post_1 : decode cNw_post 1 = .ok (.dup, 1) := by decide +kernel
theorem dNw_post_2 : decode cNw_post 2 = .ok (.getfield 18, 3) := by decide +kernel
theorem dNw_post_5 : decode cNw_post 5 = .ok (.iconst 1, 1) := by decide +kernel
theorem dNw_post_6 : decode cNw_post 6 = .ok (.iadd, 1) := by decide +kernel
theorem dNw_post_7 : decode cNw_post 7 = .ok (.putfield 18, 3) := by decide +kernel
theorem dNw_post_10 : decode cNw_post 10 = .ok (.aload_n 0, 1) := by decide +kernel
theorem dNw_post_11 : decode cNw_post 11 = .ok (.iload_n 1, 1) := by decide +kernel
theorem dNw_post_12 : decode cNw_post 12 = .ok (.iload_n 2, 1) := by decide +kernel
theorem dNw_post_13 : decode cNw_post 13 = .ok (.invokevirtual 22, 3) := by decide +kernel
theorem dNw_post_16 : decode cNw_post 16 = .ok (.aload_n 3, 1) := by decide +kernel
theorem dNw_post_17 : decode cNw_post 17 = .ok (.invokevirtual 26, 3) := by decide +kernel
theorem dNw_post_20 : decode cNw_post 20 = .ok (.return_, 1) := by decide +kernel
theorem dSv_send_0 : decode cSv_send 0 = .ok (.aload_n 0, 1) := by decide +kernel
theorem dSv_send_1 : decode cSv_send 1 = .ok (.getfield 9, 3) := by decide +kernel
theorem dSv_send_4 : decode cSv_send 4 = .ok (.iload_n 1, 1) := by decide +kernel
theorem dSv_send_5 : decode cSv_send 5 = .ok (.iload_n 2, 1) := by decide +kernel
theorem dSv_send_6 : decode cSv_send 6 = .ok (.new 19, 3) := by decide +kernel
theorem dSv_send_9 : decode cSv_send 9 = .ok (.dup, 1) := by decide +kernel
theorem dSv_send_10 : decode cSv_send 10 = .ok (.aload_n 0, 1) := by decide +kernel
theorem dSv_send_11 : decode cSv_send 11 = .ok (.getfield 15, 3) := by decide +kernel
theorem dSv_send_14 : decode cSv_send 14 = .ok (.iload_n 3, 1) := by decide +kernel
theorem dSv_send_15 : decode cSv_send 15 = .ok (.iload 4, 2) := by decide +kernel
theorem dSv_send_17 : decode cSv_send 17 = .ok (.invokespecial 21, 3) := by decide +kernel
theorem dSv_send_20 : decode cSv_send 20 = .ok (.invokevirtual 24, 3) := by decide +kernel
theorem dSv_send_23 : decode cSv_send 23 = .ok (.return_, 1) := by decide +kernel
theorem dSv_sendToAllOthers_0 : decode cSv_sendToAllOthers 0 = .ok (.iconst 0, 1) := by decide +kernel
theorem dSv_sendToAllOthers_1 : decode cSv_sendToAllOthers 1 = .ok (.istore 4, 2) := by decide +kernel
theorem dSv_sendToAllOthers_3 : decode cSv_sendToAllOthers 3 = .ok (.iload 4, 2) := by decide +kernel
theorem dSv_sendToAllOthers_5 : decode cSv_sendToAllOthers 5 = .ok (.iconst 4, 1) := by decide +kernel
theorem dSv_sendToAllOthers_6 : decode cSv_sendToAllOthers 6 = .ok (.if_icmp .ge 24, 3) := by decide +kernel
theorem dSv_sendToAllOthers_9 : decode cSv_sendToAllOthers 9 = .ok (.iload 4, 2) := by decide +kernel
theorem dSv_sendToAllOthers_11 : decode cSv_sendToAllOthers 11 = .ok (.iload_n 1, 1) := by decide +kernel
theorem dSv_sendToAllOthers_12 : decode cSv_sendToAllOthers 12 = .ok (.if_icmp .eq 12, 3) := by decide +kernel
theorem dSv_sendToAllOthers_15 : decode cSv_sendToAllOthers 15 = .ok (.aload_n 0, 1) := by decide +kernel
theorem dSv_sendToAllOthers_16 : decode cSv_sendToAllOthers 16 = .ok (.iload_n 1, 1) := by decide +kernel
theorem dSv_sendToAllOthers_17 : decode cSv_sendToAllOthers 17 = .ok (.iload 4, 2) := by decide +kernel
theorem dSv_sendToAllOthers_19 : decode cSv_sendToAllOthers 19 = .ok (.iload_n 2, 1) := by decide +kernel
theorem dSv_sendToAllOthers_20 : decode cSv_sendToAllOthers 20 = .ok (.iload_n 3, 1) := by decide +kernel
theorem dSv_sendToAllOthers_21 : decode cSv_sendToAllOthers 21 = .ok (.invokevirtual 30, 3) := by decide +kernel
theorem dSv_sendToAllOthers_24 : decode cSv_sendToAllOthers 24 = .ok (.iinc 4 1, 3) := by decide +kernel
theorem dSv_sendToAllOthers_27 : decode cSv_sendToAllOthers 27 = .ok (.goto (-24), 3) := by decide +kernel
theorem dSv_sendToAllOthers_30 : decode cSv_sendToAllOthers 30 = .ok (.return_, 1) := by decide +kernel
theorem dLk_enter_0 : decode cLk_enter 0 = .ok (.aload_n 0, 1) := by decide +kernel
theorem dLk_enter_1 : decode cLk_enter 1 = .ok (.getfield 9, 3) := by decide +kernel
theorem dLk_enter_4 : decode cLk_enter 4 = .ok (.iload_n 1, 1) := by decide +kernel
theorem dLk_enter_5 : decode cLk_enter 5 = .ok (.iconst 2, 1) := by decide +kernel
theorem dLk_enter_6 : decode cLk_enter 6 = .ok (.iastore, 1) := by decide +kernel
theorem dLk_enter_7 : decode cLk_enter 7 = .ok (.aload_n 0, 1) := by decide +kernel
theorem dLk_enter_8 : decode cLk_enter 8 = .ok (.dup, 1) := by decide +kernel
theorem dLk_enter_9 : decode cLk_enter 9 = .ok (.getfield 15, 3) := by decide +kernel
theorem dLk_enter_12 : decode cLk_enter 12 = .ok (.iconst 1, 1) := by decide +kernel
theorem dLk_enter_13 : decode cLk_enter 13 = .ok (.iadd, 1) := by decide +kernel
theorem dLk_enter_14 : decode cLk_enter 14 = .ok (.putfield 15, 3) := by decide +kernel
theorem dLk_enter_17 : decode cLk_enter 17 = .ok (.return_, 1) := by decide +kernel
theorem dLk_condition_0 : decode cLk_condition 0 = .ok (.aload_n 0, 1) := by decide +kernel
theorem dLk_condition_1 : decode cLk_condition 1 = .ok (.getfield 9, 3) := by decide +kernel
theorem dLk_condition_4 : decode cLk_condition 4 = .ok (.iload_n 1, 1) := by decide +kernel
theorem dLk_condition_5 : decode cLk_condition 5 = .ok (.iaload, 1) := by decide +kernel
theorem dLk_condition_6 : decode cLk_condition 6 = .ok (.ireturn, 1) := by decide +kernel
theorem dSt_detail_0 : decode cSt_detail 0 = .ok (.aload_n 0, 1) := by decide +kernel
theorem dSt_detail_1 : decode cSt_detail 1 = .ok (.getfield 9, 3) := by decide +kernel
theorem dSt_detail_4 : decode cSt_detail 4 = .ok (.iload_n 1, 1) := by decide +kernel
theorem dSt_detail_5 : decode cSt_detail 5 = .ok (.iaload, 1) := by decide +kernel
theorem dSt_detail_6 : decode cSt_detail 6 = .ok (.ireturn, 1) := by decide +kernel
theorem dSt_ask_0 : decode cSt_ask 0 = .ok (.aload_n 0, 1) := by decide +kernel
theorem dSt_ask_1 : decode cSt_ask 1 = .ok (.getfield 9, 3) := by decide +kernel
theorem dSt_ask_4 : decode cSt_ask 4 = .ok (.iload_n 1, 1) := by decide +kernel
theorem dSt_ask_5 : decode cSt_ask 5 = .ok (.dup2, 1) := by decide +kernel
theorem dSt_ask_6 : decode cSt_ask 6 = .ok (.iaload, 1) := by decide +kernel
theorem dSt_ask_7 : decode cSt_ask 7 = .ok (.iconst 1, 1) := by decide +kernel
theorem dSt_ask_8 : decode cSt_ask 8 = .ok (.iadd, 1) := by decide +kernel
theorem dSt_ask_9 : decode cSt_ask 9 = .ok (.iastore, 1) := by decide +kernel
theorem dSt_ask_10 : decode cSt_ask 10 = .ok (.aload_n 0, 1) := by decide +kernel
theorem dSt_ask_11 : decode cSt_ask 11 = .ok (.getfield 15, 3) := by decide +kernel
theorem dSt_ask_14 : decode cSt_ask 14 = .ok (.iload_n 1, 1) := by decide +kernel
theorem dSt_ask_15 : decode cSt_ask 15 = .ok (.aload_n 0, 1) := by decide +kernel
theorem dSt_ask_16 : decode cSt_ask 16 = .ok (.getfield 9, 3) := by decide +kernel
theorem dSt_ask_19 : decode cSt_ask 19 = .ok (.iload_n 1, 1) := by decide +kernel
theorem dSt_ask_20 : decode cSt_ask 20 = .ok (.iaload, 1) := by decide +kernel
theorem dSt_ask_21 : decode cSt_ask 21 = .ok (.iastore, 1) := by decide +kernel
theorem dSt_ask_22 : decode cSt_ask 22 = .ok (.aload_n 0, 1) := by decide +kernel
theorem dSt_ask_23 : decode cSt_ask 23 = .ok (.getfield 18, 3) := by decide +kernel
theorem dSt_ask_26 : decode cSt_ask 26 = .ok (.iload_n 1, 1) := by decide +kernel
theorem dSt_ask_27 : decode cSt_ask 27 = .ok (.iconst 0, 1) := by decide +kernel
theorem dSt_ask_28 : decode cSt_ask 28 = .ok (.iastore, 1) := by decide +kernel
theorem dSt_ask_29 : decode cSt_ask 29 = .ok (.aload_n 0, 1) := by decide +kernel
theorem dSt_ask_30 : decode cSt_ask 30 = .ok (.getfield 25, 3) := by decide +kernel
theorem dSt_ask_33 : decode cSt_ask 33 = .ok (.iload_n 1, 1) := by decide +kernel
theorem dSt_ask_34 : decode cSt_ask 34 = .ok (.iconst 1, 1) := by decide +kernel
theorem dSt_ask_35 : decode cSt_ask 35 = .ok (.iastore, 1) := by decide +kernel
theorem dSt_ask_36 : decode cSt_ask 36 = .ok (.aload_n 0, 1) := by decide +kernel
theorem dSt_ask_37 : decode cSt_ask 37 = .ok (.iload_n 1, 1) := by decide +kernel
theorem dSt_ask_38 : decode cSt_ask 38 = .ok (.iconst 0, 1) := by decide +kernel
theorem dSt_ask_39 : decode cSt_ask 39 = .ok (.aload_n 0, 1) := by decide +kernel
theorem dSt_ask_40 : decode cSt_ask 40 = .ok (.getfield 15, 3) := by decide +kernel
theorem dSt_ask_43 : decode cSt_ask 43 = .ok (.iload_n 1, 1) := by decide +kernel
theorem dSt_ask_44 : decode cSt_ask 44 = .ok (.iaload, 1) := by decide +kernel
theorem dSt_ask_45 : decode cSt_ask 45 = .ok (.invokevirtual 28, 3) := by decide +kernel
theorem dSt_ask_48 : decode cSt_ask 48 = .ok (.return_, 1) := by decide +kernel
theorem dSt_release_0 : decode cSt_release 0 = .ok (.aload_n 0, 1) := by decide +kernel
theorem dSt_release_1 : decode cSt_release 1 = .ok (.getfield 25, 3) := by decide +kernel
theorem dSt_release_4 : decode cSt_release 4 = .ok (.iload_n 1, 1) := by decide +kernel
theorem dSt_release_5 : decode cSt_release 5 = .ok (.iconst 0, 1) := by decide +kernel
theorem dSt_release_6 : decode cSt_release 6 = .ok (.iastore, 1) := by decide +kernel
theorem dSt_release_7 : decode cSt_release 7 = .ok (.iconst 0, 1) := by decide +kernel
theorem dSt_release_8 : decode cSt_release 8 = .ok (.istore_n 2, 1) := by decide +kernel
theorem dSt_release_9 : decode cSt_release 9 = .ok (.iload_n 2, 1) := by decide +kernel
theorem dSt_release_10 : decode cSt_release 10 = .ok (.iconst 4, 1) := by decide +kernel
theorem dSt_release_11 : decode cSt_release 11 = .ok (.if_icmp .ge 41, 3) := by decide +kernel
theorem dSt_release_14 : decode cSt_release 14 = .ok (.aload_n 0, 1) := by decide +kernel
theorem dSt_release_15 : decode cSt_release 15 = .ok (.getfield 21, 3) := by decide +kernel
theorem dSt_release_18 : decode cSt_release 18 = .ok (.iload_n 1, 1) := by decide +kernel
theorem dSt_release_19 : decode cSt_release 19 = .ok (.iconst 4, 1) := by decide +kernel
theorem dSt_release_20 : decode cSt_release 20 = .ok (.imul, 1) := by decide +kernel
theorem dSt_release_21 : decode cSt_release 21 = .ok (.iload_n 2, 1) := by decide +kernel
theorem dSt_release_22 : decode cSt_release 22 = .ok (.iadd, 1) := by decide +kernel
theorem dSt_release_23 : decode cSt_release 23 = .ok (.baload, 1) := by decide +kernel
theorem dSt_release_24 : decode cSt_release 24 = .ok (.ifCond .eq 22, 3) := by decide +kernel
theorem dSt_release_27 : decode cSt_release 27 = .ok (.aload_n 0, 1) := by decide +kernel
theorem dSt_release_28 : decode cSt_release 28 = .ok (.getfield 21, 3) := by decide +kernel
theorem dSt_release_31 : decode cSt_release 31 = .ok (.iload_n 1, 1) := by decide +kernel
theorem dSt_release_32 : decode cSt_release 32 = .ok (.iconst 4, 1) := by decide +kernel
theorem dSt_release_33 : decode cSt_release 33 = .ok (.imul, 1) := by decide +kernel
theorem dSt_release_34 : decode cSt_release 34 = .ok (.iload_n 2, 1) := by decide +kernel
theorem dSt_release_35 : decode cSt_release 35 = .ok (.iadd, 1) := by decide +kernel
theorem dSt_release_36 : decode cSt_release 36 = .ok (.iconst 0, 1) := by decide +kernel
theorem dSt_release_37 : decode cSt_release 37 = .ok (.bastore, 1) := by decide +kernel
theorem dSt_release_38 : decode cSt_release 38 = .ok (.aload_n 0, 1) := by decide +kernel
theorem dSt_release_39 : decode cSt_release 39 = .ok (.iload_n 1, 1) := by decide +kernel
theorem dSt_release_40 : decode cSt_release 40 = .ok (.iload_n 2, 1) := by decide +kernel
theorem dSt_release_41 : decode cSt_release 41 = .ok (.iconst 1, 1) := by decide +kernel
theorem dSt_release_42 : decode cSt_release 42 = .ok (.iconst 0, 1) := by decide +kernel
theorem dSt_release_43 : decode cSt_release 43 = .ok (.invokevirtual 32, 3) := by decide +kernel
theorem dSt_release_46 : decode cSt_release 46 = .ok (.iinc 2 1, 3) := by decide +kernel
theorem dSt_release_49 : decode cSt_release 49 = .ok (.goto (-40), 3) := by decide +kernel
theorem dSt_release_52 : decode cSt_release 52 = .ok (.return_, 1) := by decide +kernel
theorem dSt_isBefore_0 : decode cSt_isBefore 0 = .ok (.aload_n 0, 1) := by decide +kernel
theorem dSt_isBefore_1 : decode cSt_isBefore 1 = .ok (.getfield 15, 3) := by decide +kernel
theorem dSt_isBefore_4 : decode cSt_isBefore 4 = .ok (.iload_n 1, 1) := by decide +kernel
theorem dSt_isBefore_5 : decode cSt_isBefore 5 = .ok (.iaload, 1) := by decide +kernel
theorem dSt_isBefore_6 : decode cSt_isBefore 6 = .ok (.iload_n 3, 1) := by decide +kernel
theorem dSt_isBefore_7 : decode cSt_isBefore 7 = .ok (.if_icmp .lt 18, 3) := by decide +kernel
theorem dSt_isBefore_10 : decode cSt_isBefore 10 = .ok (.aload_n 0, 1) := by decide +kernel
theorem dSt_isBefore_11 : decode cSt_isBefore 11 = .ok (.getfield 15, 3) := by decide +kernel
theorem dSt_isBefore_14 : decode cSt_isBefore 14 = .ok (.iload_n 1, 1) := by decide +kernel
theorem dSt_isBefore_15 : decode cSt_isBefore 15 = .ok (.iaload, 1) := by decide +kernel
theorem dSt_isBefore_16 : decode cSt_isBefore 16 = .ok (.iload_n 3, 1) := by decide +kernel
theorem dSt_isBefore_17 : decode cSt_isBefore 17 = .ok (.if_icmp .ne 12, 3) := by decide +kernel
theorem dSt_isBefore_20 : decode cSt_isBefore 20 = .ok (.iload_n 1, 1) := by decide +kernel
theorem dSt_isBefore_21 : decode cSt_isBefore 21 = .ok (.iload_n 2, 1) := by decide +kernel
theorem dSt_isBefore_22 : decode cSt_isBefore 22 = .ok (.if_icmp .ge 7, 3) := by decide +kernel
theorem dSt_isBefore_25 : decode cSt_isBefore 25 = .ok (.iconst 1, 1) := by decide +kernel
theorem dSt_isBefore_26 : decode cSt_isBefore 26 = .ok (.goto 4, 3) := by decide +kernel
theorem dSt_isBefore_29 : decode cSt_isBefore 29 = .ok (.iconst 0, 1) := by decide +kernel
theorem dSt_isBefore_30 : decode cSt_isBefore 30 = .ok (.ireturn, 1) := by decide +kernel
theorem dSt_takeRequest_0 : decode cSt_takeRequest 0 = .ok (.aload_n 0, 1) := by decide +kernel
theorem dSt_takeRequest_1 : decode cSt_takeRequest 1 = .ok (.getfield 9, 3) := by decide +kernel
theorem dSt_takeRequest_4 : decode cSt_takeRequest 4 = .ok (.iload_n 2, 1) := by decide +kernel
theorem dSt_takeRequest_5 : decode cSt_takeRequest 5 = .ok (.aload_n 0, 1) := by decide +kernel
theorem dSt_takeRequest_6 : decode cSt_takeRequest 6 = .ok (.getfield 9, 3) := by decide +kernel
theorem dSt_takeRequest_9 : decode cSt_takeRequest 9 = .ok (.iload_n 2, 1) := by decide +kernel
theorem dSt_takeRequest_10 : decode cSt_takeRequest 10 = .ok (.iaload, 1) := by decide +kernel
theorem dSt_takeRequest_11 : decode cSt_takeRequest 11 = .ok (.iload_n 3, 1) := by decide +kernel
theorem dSt_takeRequest_12 : decode cSt_takeRequest 12 = .ok (.invokestatic 52, 3) := by decide +kernel
theorem dSt_takeRequest_15 : decode cSt_takeRequest 15 = .ok (.iastore, 1) := by decide +kernel
theorem dSt_takeRequest_16 : decode cSt_takeRequest 16 = .ok (.aload_n 0, 1) := by decide +kernel
theorem dSt_takeRequest_17 : decode cSt_takeRequest 17 = .ok (.getfield 25, 3) := by decide +kernel
theorem dSt_takeRequest_20 : decode cSt_takeRequest 20 = .ok (.iload_n 2, 1) := by decide +kernel
theorem dSt_takeRequest_21 : decode cSt_takeRequest 21 = .ok (.iaload, 1) := by decide +kernel
theorem dSt_takeRequest_22 : decode cSt_takeRequest 22 = .ok (.iconst 2, 1) := by decide +kernel
theorem dSt_takeRequest_23 : decode cSt_takeRequest 23 = .ok (.if_icmp .eq 23, 3) := by decide +kernel
theorem dSt_takeRequest_26 : decode cSt_takeRequest 26 = .ok (.aload_n 0, 1) := by decide +kernel
theorem dSt_takeRequest_27 : decode cSt_takeRequest 27 = .ok (.getfield 25, 3) := by decide +kernel
theorem dSt_takeRequest_30 : decode cSt_takeRequest 30 = .ok (.iload_n 2, 1) := by decide +kernel
theorem dSt_takeRequest_31 : decode cSt_takeRequest 31 = .ok (.iaload, 1) := by decide +kernel
theorem dSt_takeRequest_32 : decode cSt_takeRequest 32 = .ok (.iconst 1, 1) := by decide +kernel
theorem dSt_takeRequest_33 : decode cSt_takeRequest 33 = .ok (.if_icmp .ne 27, 3) := by decide +kernel
theorem dSt_takeRequest_36 : decode cSt_takeRequest 36 = .ok (.aload_n 0, 1) := by decide +kernel
theorem dSt_takeRequest_37 : decode cSt_takeRequest 37 = .ok (.iload_n 2, 1) := by decide +kernel
theorem dSt_takeRequest_38 : decode cSt_takeRequest 38 = .ok (.iload_n 1, 1) := by decide +kernel
theorem dSt_takeRequest_39 : decode cSt_takeRequest 39 = .ok (.iload_n 3, 1) := by decide +kernel
theorem dSt_takeRequest_40 : decode cSt_takeRequest 40 = .ok (.invokevirtual 58, 3) := by decide +kernel
theorem dSt_takeRequest_43 : decode cSt_takeRequest 43 = .ok (.ifCond .eq 17, 3) := by decide +kernel
theorem dSt_takeRequest_46 : decode cSt_takeRequest 46 = .ok (.aload_n 0, 1) := by decide +kernel
theorem dSt_takeRequest_47 : decode cSt_takeRequest 47 = .ok (.getfield 21, 3) := by decide +kernel
theorem dSt_takeRequest_50 : decode cSt_takeRequest 50 = .ok (.iload_n 2, 1) := by decide +kernel
theorem dSt_takeRequest_51 : decode cSt_takeRequest 51 = .ok (.iconst 4, 1) := by decide +kernel
theorem dSt_takeRequest_52 : decode cSt_takeRequest 52 = .ok (.imul, 1) := by decide +kernel
theorem dSt_takeRequest_53 : decode cSt_takeRequest 53 = .ok (.iload_n 1, 1) := by decide +kernel
theorem dSt_takeRequest_54 : decode cSt_takeRequest 54 = .ok (.iadd, 1) := by decide +kernel
theorem dSt_takeRequest_55 : decode cSt_takeRequest 55 = .ok (.iconst 1, 1) := by decide +kernel
theorem dSt_takeRequest_56 : decode cSt_takeRequest 56 = .ok (.bastore, 1) := by decide +kernel
theorem dSt_takeRequest_57 : decode cSt_takeRequest 57 = .ok (.goto 11, 3) := by decide +kernel
theorem dSt_takeRequest_60 : decode cSt_takeRequest 60 = .ok (.aload_n 0, 1) := by decide +kernel
theorem dSt_takeRequest_61 : decode cSt_takeRequest 61 = .ok (.iload_n 2, 1) := by decide +kernel
theorem dSt_takeRequest_62 : decode cSt_takeRequest 62 = .ok (.iload_n 1, 1) := by decide +kernel
theorem dSt_takeRequest_63 : decode cSt_takeRequest 63 = .ok (.iconst 1, 1) := by decide +kernel
theorem dSt_takeRequest_64 : decode cSt_takeRequest 64 = .ok (.iconst 0, 1) := by decide +kernel
theorem dSt_takeRequest_65 : decode cSt_takeRequest 65 = .ok (.invokevirtual 32, 3) := by decide +kernel
theorem dSt_takeRequest_68 : decode cSt_takeRequest 68 = .ok (.return_, 1) := by decide +kernel
theorem dSt_takeReply_0 : decode cSt_takeReply 0 = .ok (.aload_n 0, 1) := by decide +kernel
theorem dSt_takeReply_1 : decode cSt_takeReply 1 = .ok (.getfield 18, 3) := by decide +kernel
theorem dSt_takeReply_4 : decode cSt_takeReply 4 = .ok (.iload_n 1, 1) := by decide +kernel
theorem dSt_takeReply_5 : decode cSt_takeReply 5 = .ok (.dup2, 1) := by decide +kernel
theorem dSt_takeReply_6 : decode cSt_takeReply 6 = .ok (.iaload, 1) := by decide +kernel
theorem dSt_takeReply_7 : decode cSt_takeReply 7 = .ok (.iconst 1, 1) := by decide +kernel
theorem dSt_takeReply_8 : decode cSt_takeReply 8 = .ok (.iadd, 1) := by decide +kernel
theorem dSt_takeReply_9 : decode cSt_takeReply 9 = .ok (.iastore, 1) := by decide +kernel
theorem dSt_takeReply_10 : decode cSt_takeReply 10 = .ok (.aload_n 0, 1) := by decide +kernel
theorem dSt_takeReply_11 : decode cSt_takeReply 11 = .ok (.getfield 18, 3) := by decide +kernel
theorem dSt_takeReply_14 : decode cSt_takeReply 14 = .ok (.iload_n 1, 1) := by decide +kernel
theorem dSt_takeReply_15 : decode cSt_takeReply 15 = .ok (.iaload, 1) := by decide +kernel
theorem dSt_takeReply_16 : decode cSt_takeReply 16 = .ok (.iconst 3, 1) := by decide +kernel
theorem dSt_takeReply_17 : decode cSt_takeReply 17 = .ok (.if_icmp .ne 8, 3) := by decide +kernel
theorem dSt_takeReply_20 : decode cSt_takeReply 20 = .ok (.aload_n 0, 1) := by decide +kernel
theorem dSt_takeReply_21 : decode cSt_takeReply 21 = .ok (.iload_n 1, 1) := by decide +kernel
theorem dSt_takeReply_22 : decode cSt_takeReply 22 = .ok (.invokevirtual 62, 3) := by decide +kernel
theorem dSt_takeReply_25 : decode cSt_takeReply 25 = .ok (.return_, 1) := by decide +kernel
theorem dSt_receive_0 : decode cSt_receive 0 = .ok (.aload_n 3, 1) := by decide +kernel
theorem dSt_receive_1 : decode cSt_receive 1 = .ok (.getfield 36, 3) := by decide +kernel
theorem dSt_receive_4 : decode cSt_receive 4 = .ok (.ifCond .ne 16, 3) := by decide +kernel
theorem dSt_receive_7 : decode cSt_receive 7 = .ok (.aload_n 0, 1) := by decide +kernel
theorem dSt_receive_8 : decode cSt_receive 8 = .ok (.iload_n 1, 1) := by decide +kernel
theorem dSt_receive_9 : decode cSt_receive 9 = .ok (.iload_n 2, 1) := by decide +kernel
theorem dSt_receive_10 : decode cSt_receive 10 = .ok (.aload_n 3, 1) := by decide +kernel
theorem dSt_receive_11 : decode cSt_receive 11 = .ok (.getfield 42, 3) := by decide +kernel
theorem dSt_receive_14 : decode cSt_receive 14 = .ok (.invokevirtual 45, 3) := by decide +kernel
theorem dSt_receive_17 : decode cSt_receive 17 = .ok (.goto 8, 3) := by decide +kernel
theorem dSt_receive_20 : decode cSt_receive 20 = .ok (.aload_n 0, 1) := by decide +kernel
theorem dSt_receive_21 : decode cSt_receive 21 = .ok (.iload_n 2, 1) := by decide +kernel
theorem dSt_receive_22 : decode cSt_receive 22 = .ok (.invokevirtual 48, 3) := by decide +kernel
theorem dSt_receive_25 : decode cSt_receive 25 = .ok (.return_, 1) := by decide +kernel
theorem dTk_detail_0 : decode cTk_detail 0 = .ok (.aload_n 0, 1) := by decide +kernel
theorem dTk_detail_1 : decode cTk_detail 1 = .ok (.getfield 11, 3) := by decide +kernel
theorem dTk_detail_4 : decode cTk_detail 4 = .ok (.iload_n 1, 1) := by decide +kernel
theorem dTk_detail_5 : decode cTk_detail 5 = .ok (.aaload, 1) := by decide +kernel
theorem dTk_detail_6 : decode cTk_detail 6 = .ok (.iload_n 1, 1) := by decide +kernel
theorem dTk_detail_7 : decode cTk_detail 7 = .ok (.iaload, 1) := by decide +kernel
theorem dTk_detail_8 : decode cTk_detail 8 = .ok (.ireturn, 1) := by decide +kernel
theorem dTk_ask_0 : decode cTk_ask 0 = .ok (.aload_n 0, 1) := by decide +kernel
theorem dTk_ask_1 : decode cTk_ask 1 = .ok (.getfield 29, 3) := by decide +kernel
theorem dTk_ask_4 : decode cTk_ask 4 = .ok (.iload_n 1, 1) := by decide +kernel
theorem dTk_ask_5 : decode cTk_ask 5 = .ok (.if_icmp .ne 9, 3) := by decide +kernel
theorem dTk_ask_8 : decode cTk_ask 8 = .ok (.aload_n 0, 1) := by decide +kernel
theorem dTk_ask_9 : decode cTk_ask 9 = .ok (.iload_n 1, 1) := by decide +kernel
theorem dTk_ask_10 : decode cTk_ask 10 = .ok (.invokevirtual 33, 3) := by decide +kernel
theorem dTk_ask_13 : decode cTk_ask 13 = .ok (.return_, 1) := by decide +kernel
theorem dTk_ask_14 : decode cTk_ask 14 = .ok (.aload_n 0, 1) := by decide +kernel
theorem dTk_ask_15 : decode cTk_ask 15 = .ok (.getfield 11, 3) := by decide +kernel
theorem dTk_ask_18 : decode cTk_ask 18 = .ok (.iload_n 1, 1) := by decide +kernel
theorem dTk_ask_19 : decode cTk_ask 19 = .ok (.aaload, 1) := by decide +kernel
theorem dTk_ask_20 : decode cTk_ask 20 = .ok (.iload_n 1, 1) := by decide +kernel
theorem dTk_ask_21 : decode cTk_ask 21 = .ok (.dup2, 1) := by decide +kernel
theorem dTk_ask_22 : decode cTk_ask 22 = .ok (.iaload, 1) := by decide +kernel
theorem dTk_ask_23 : decode cTk_ask 23 = .ok (.iconst 1, 1) := by decide +kernel
theorem dTk_ask_24 : decode cTk_ask 24 = .ok (.iadd, 1) := by decide +kernel
theorem dTk_ask_25 : decode cTk_ask 25 = .ok (.iastore, 1) := by decide +kernel
theorem dTk_ask_26 : decode cTk_ask 26 = .ok (.aload_n 0, 1) := by decide +kernel
theorem dTk_ask_27 : decode cTk_ask 27 = .ok (.getfield 37, 3) := by decide +kernel
theorem dTk_ask_30 : decode cTk_ask 30 = .ok (.iload_n 1, 1) := by decide +kernel
theorem dTk_ask_31 : decode cTk_ask 31 = .ok (.iconst 1, 1) := by decide +kernel
theorem dTk_ask_32 : decode cTk_ask 32 = .ok (.iastore, 1) := by decide +kernel
theorem dTk_ask_33 : decode cTk_ask 33 = .ok (.aload_n 0, 1) := by decide +kernel
theorem dTk_ask_34 : decode cTk_ask 34 = .ok (.iload_n 1, 1) := by decide +kernel
theorem dTk_ask_35 : decode cTk_ask 35 = .ok (.iconst 0, 1) := by decide +kernel
theorem dTk_ask_36 : decode cTk_ask 36 = .ok (.aload_n 0, 1) := by decide +kernel
theorem dTk_ask_37 : decode cTk_ask 37 = .ok (.getfield 11, 3) := by decide +kernel
theorem dTk_ask_40 : decode cTk_ask 40 = .ok (.iload_n 1, 1) := by decide +kernel
theorem dTk_ask_41 : decode cTk_ask 41 = .ok (.aaload, 1) := by decide +kernel
theorem dTk_ask_42 : decode cTk_ask 42 = .ok (.iload_n 1, 1) := by decide +kernel
theorem dTk_ask_43 : decode cTk_ask 43 = .ok (.iaload, 1) := by decide +kernel
theorem dTk_ask_44 : decode cTk_ask 44 = .ok (.invokevirtual 40, 3) := by decide +kernel
theorem dTk_ask_47 : decode cTk_ask 47 = .ok (.return_, 1) := by decide +kernel
theorem dTk_isOwed_0 : decode cTk_isOwed 0 = .ok (.aload_n 0, 1) := by decide +kernel
theorem dTk_isOwed_1 : decode cTk_isOwed 1 = .ok (.getfield 11, 3) := by decide +kernel
theorem dTk_isOwed_4 : decode cTk_isOwed 4 = .ok (.iload_n 1, 1) := by decide +kernel
theorem dTk_isOwed_5 : decode cTk_isOwed 5 = .ok (.aaload, 1) := by decide +kernel
theorem dTk_isOwed_6 : decode cTk_isOwed 6 = .ok (.iload_n 2, 1) := by decide +kernel
theorem dTk_isOwed_7 : decode cTk_isOwed 7 = .ok (.iaload, 1) := by decide +kernel
theorem dTk_isOwed_8 : decode cTk_isOwed 8 = .ok (.aload_n 0, 1) := by decide +kernel
theorem dTk_isOwed_9 : decode cTk_isOwed 9 = .ok (.getfield 16, 3) := by decide +kernel
theorem dTk_isOwed_12 : decode cTk_isOwed 12 = .ok (.iload_n 2, 1) := by decide +kernel
theorem dTk_isOwed_13 : decode cTk_isOwed 13 = .ok (.iaload, 1) := by decide +kernel
theorem dTk_isOwed_14 : decode cTk_isOwed 14 = .ok (.iconst 1, 1) := by decide +kernel
theorem dTk_isOwed_15 : decode cTk_isOwed 15 = .ok (.iadd, 1) := by decide +kernel
theorem dTk_isOwed_16 : decode cTk_isOwed 16 = .ok (.if_icmp .ne 7, 3) := by decide +kernel
theorem dTk_isOwed_19 : decode cTk_isOwed 19 = .ok (.iconst 1, 1) := by decide +kernel
theorem dTk_isOwed_20 : decode cTk_isOwed 20 = .ok (.goto 4, 3) := by decide +kernel
theorem dTk_isOwed_23 : decode cTk_isOwed 23 = .ok (.iconst 0, 1) := by decide +kernel
theorem dTk_isOwed_24 : decode cTk_isOwed 24 = .ok (.ireturn, 1) := by decide +kernel
theorem dTk_passToken_0 : decode cTk_passToken 0 = .ok (.aload_n 0, 1) := by decide +kernel
theorem dTk_passToken_1 : decode cTk_passToken 1 = .ok (.iconst (-1), 1) := by decide +kernel
theorem dTk_passToken_2 : decode cTk_passToken 2 = .ok (.putfield 29, 3) := by decide +kernel
theorem dTk_passToken_5 : decode cTk_passToken 5 = .ok (.aload_n 0, 1) := by decide +kernel
theorem dTk_passToken_6 : decode cTk_passToken 6 = .ok (.iload_n 1, 1) := by decide +kernel
theorem dTk_passToken_7 : decode cTk_passToken 7 = .ok (.iload_n 2, 1) := by decide +kernel
theorem dTk_passToken_8 : decode cTk_passToken 8 = .ok (.iconst 1, 1) := by decide +kernel
theorem dTk_passToken_9 : decode cTk_passToken 9 = .ok (.iconst 0, 1) := by decide +kernel
theorem dTk_passToken_10 : decode cTk_passToken 10 = .ok (.invokevirtual 84, 3) := by decide +kernel
theorem dTk_passToken_13 : decode cTk_passToken 13 = .ok (.return_, 1) := by decide +kernel
theorem dTk_release_0 : decode cTk_release 0 = .ok (.aload_n 0, 1) := by decide +kernel
theorem dTk_release_1 : decode cTk_release 1 = .ok (.getfield 37, 3) := by decide +kernel
theorem dTk_release_4 : decode cTk_release 4 = .ok (.iload_n 1, 1) := by decide +kernel
theorem dTk_release_5 : decode cTk_release 5 = .ok (.iconst 0, 1) := by decide +kernel
theorem dTk_release_6 : decode cTk_release 6 = .ok (.iastore, 1) := by decide +kernel
theorem dTk_release_7 : decode cTk_release 7 = .ok (.aload_n 0, 1) := by decide +kernel
theorem dTk_release_8 : decode cTk_release 8 = .ok (.getfield 16, 3) := by decide +kernel
theorem dTk_release_11 : decode cTk_release 11 = .ok (.iload_n 1, 1) := by decide +kernel
theorem dTk_release_12 : decode cTk_release 12 = .ok (.aload_n 0, 1) := by decide +kernel
theorem dTk_release_13 : decode cTk_release 13 = .ok (.getfield 11, 3) := by decide +kernel
theorem dTk_release_16 : decode cTk_release 16 = .ok (.iload_n 1, 1) := by decide +kernel
theorem dTk_release_17 : decode cTk_release 17 = .ok (.aaload, 1) := by decide +kernel
theorem dTk_release_18 : decode cTk_release 18 = .ok (.iload_n 1, 1) := by decide +kernel
theorem dTk_release_19 : decode cTk_release 19 = .ok (.iaload, 1) := by decide +kernel
theorem dTk_release_20 : decode cTk_release 20 = .ok (.iastore, 1) := by decide +kernel
theorem dTk_release_21 : decode cTk_release 21 = .ok (.iconst 0, 1) := by decide +kernel
theorem dTk_release_22 : decode cTk_release 22 = .ok (.istore_n 2, 1) := by decide +kernel
theorem dTk_release_23 : decode cTk_release 23 = .ok (.iload_n 2, 1) := by decide +kernel
theorem dTk_release_24 : decode cTk_release 24 = .ok (.iconst 4, 1) := by decide +kernel
theorem dTk_release_25 : decode cTk_release 25 = .ok (.if_icmp .ge 37, 3) := by decide +kernel
theorem dTk_release_28 : decode cTk_release 28 = .ok (.aload_n 0, 1) := by decide +kernel
theorem dTk_release_29 : decode cTk_release 29 = .ok (.getfield 25, 3) := by decide +kernel
theorem dTk_release_32 : decode cTk_release 32 = .ok (.iload_n 2, 1) := by decide +kernel
theorem dTk_release_33 : decode cTk_release 33 = .ok (.invokevirtual 44, 3) := by decide +kernel
theorem dTk_release_36 : decode cTk_release 36 = .ok (.ifCond .ne 20, 3) := by decide +kernel
theorem dTk_release_39 : decode cTk_release 39 = .ok (.aload_n 0, 1) := by decide +kernel
theorem dTk_release_40 : decode cTk_release 40 = .ok (.iload_n 1, 1) := by decide +kernel
theorem dTk_release_41 : decode cTk_release 41 = .ok (.iload_n 2, 1) := by decide +kernel
theorem dTk_release_42 : decode cTk_release 42 = .ok (.invokevirtual 48, 3) := by decide +kernel
theorem dTk_release_45 : decode cTk_release 45 = .ok (.ifCond .eq 11, 3) := by decide +kernel
theorem dTk_release_48 : decode cTk_release 48 = .ok (.aload_n 0, 1) := by decide +kernel
theorem dTk_release_49 : decode cTk_release 49 = .ok (.getfield 25, 3) := by decide +kernel
theorem dTk_release_52 : decode cTk_release 52 = .ok (.iload_n 2, 1) := by decide +kernel
theorem dTk_release_53 : decode cTk_release 53 = .ok (.invokevirtual 52, 3) := by decide +kernel
theorem dTk_release_56 : decode cTk_release 56 = .ok (.iinc 2 1, 3) := by decide +kernel
theorem dTk_release_59 : decode cTk_release 59 = .ok (.goto (-36), 3) := by decide +kernel
theorem dTk_release_62 : decode cTk_release 62 = .ok (.aload_n 0, 1) := by decide +kernel
theorem dTk_release_63 : decode cTk_release 63 = .ok (.getfield 25, 3) := by decide +kernel
theorem dTk_release_66 : decode cTk_release 66 = .ok (.invokevirtual 55, 3) := by decide +kernel
theorem dTk_release_69 : decode cTk_release 69 = .ok (.ifCond .ne 15, 3) := by decide +kernel
theorem dTk_release_72 : decode cTk_release 72 = .ok (.aload_n 0, 1) := by decide +kernel
theorem dTk_release_73 : decode cTk_release 73 = .ok (.iload_n 1, 1) := by decide +kernel
theorem dTk_release_74 : decode cTk_release 74 = .ok (.aload_n 0, 1) := by decide +kernel
theorem dTk_release_75 : decode cTk_release 75 = .ok (.getfield 25, 3) := by decide +kernel
theorem dTk_release_78 : decode cTk_release 78 = .ok (.invokevirtual 59, 3) := by decide +kernel
theorem dTk_release_81 : decode cTk_release 81 = .ok (.invokevirtual 63, 3) := by decide +kernel
theorem dTk_release_84 : decode cTk_release 84 = .ok (.return_, 1) := by decide +kernel
theorem dTk_takeRequest_0 : decode cTk_takeRequest 0 = .ok (.aload_n 0, 1) := by decide +kernel
theorem dTk_takeRequest_1 : decode cTk_takeRequest 1 = .ok (.getfield 11, 3) := by decide +kernel
theorem dTk_takeRequest_4 : decode cTk_takeRequest 4 = .ok (.iload_n 2, 1) := by decide +kernel
theorem dTk_takeRequest_5 : decode cTk_takeRequest 5 = .ok (.aaload, 1) := by decide +kernel
theorem dTk_takeRequest_6 : decode cTk_takeRequest 6 = .ok (.iload_n 1, 1) := by decide +kernel
theorem dTk_takeRequest_7 : decode cTk_takeRequest 7 = .ok (.aload_n 0, 1) := by decide +kernel
theorem dTk_takeRequest_8 : decode cTk_takeRequest 8 = .ok (.getfield 11, 3) := by decide +kernel
theorem dTk_takeRequest_11 : decode cTk_takeRequest 11 = .ok (.iload_n 2, 1) := by decide +kernel
theorem dTk_takeRequest_12 : decode cTk_takeRequest 12 = .ok (.aaload, 1) := by decide +kernel
theorem dTk_takeRequest_13 : decode cTk_takeRequest 13 = .ok (.iload_n 1, 1) := by decide +kernel
theorem dTk_takeRequest_14 : decode cTk_takeRequest 14 = .ok (.iaload, 1) := by decide +kernel
theorem dTk_takeRequest_15 : decode cTk_takeRequest 15 = .ok (.iload_n 3, 1) := by decide +kernel
theorem dTk_takeRequest_16 : decode cTk_takeRequest 16 = .ok (.invokestatic 78, 3) := by decide +kernel
theorem dTk_takeRequest_19 : decode cTk_takeRequest 19 = .ok (.iastore, 1) := by decide +kernel
theorem dTk_takeRequest_20 : decode cTk_takeRequest 20 = .ok (.aload_n 0, 1) := by decide +kernel
theorem dTk_takeRequest_21 : decode cTk_takeRequest 21 = .ok (.getfield 29, 3) := by decide +kernel
theorem dTk_takeRequest_24 : decode cTk_takeRequest 24 = .ok (.iload_n 2, 1) := by decide +kernel
theorem dTk_takeRequest_25 : decode cTk_takeRequest 25 = .ok (.if_icmp .ne 27, 3) := by decide +kernel
theorem dTk_takeRequest_28 : decode cTk_takeRequest 28 = .ok (.aload_n 0, 1) := by decide +kernel
theorem dTk_takeRequest_29 : decode cTk_takeRequest 29 = .ok (.getfield 37, 3) := by decide +kernel
theorem dTk_takeRequest_32 : decode cTk_takeRequest 32 = .ok (.iload_n 2, 1) := by decide +kernel
theorem dTk_takeRequest_33 : decode cTk_takeRequest 33 = .ok (.iaload, 1) := by decide +kernel
theorem dTk_takeRequest_34 : decode cTk_takeRequest 34 = .ok (.ifCond .ne 18, 3) := by decide +kernel
theorem dTk_takeRequest_37 : decode cTk_takeRequest 37 = .ok (.aload_n 0, 1) := by decide +kernel
theorem dTk_takeRequest_38 : decode cTk_takeRequest 38 = .ok (.iload_n 2, 1) := by decide +kernel
theorem dTk_takeRequest_39 : decode cTk_takeRequest 39 = .ok (.iload_n 1, 1) := by decide +kernel
theorem dTk_takeRequest_40 : decode cTk_takeRequest 40 = .ok (.invokevirtual 48, 3) := by decide +kernel
theorem dTk_takeRequest_43 : decode cTk_takeRequest 43 = .ok (.ifCond .eq 9, 3) := by decide +kernel
theorem dTk_takeRequest_46 : decode cTk_takeRequest 46 = .ok (.aload_n 0, 1) := by decide +kernel
theorem dTk_takeRequest_47 : decode cTk_takeRequest 47 = .ok (.iload_n 2, 1) := by decide +kernel
theorem dTk_takeRequest_48 : decode cTk_takeRequest 48 = .ok (.iload_n 1, 1) := by decide +kernel
theorem dTk_takeRequest_49 : decode cTk_takeRequest 49 = .ok (.invokevirtual 63, 3) := by decide +kernel
theorem dTk_takeRequest_52 : decode cTk_takeRequest 52 = .ok (.return_, 1) := by decide +kernel
theorem dTk_receive_0 : decode cTk_receive 0 = .ok (.aload_n 3, 1) := by decide +kernel
theorem dTk_receive_1 : decode cTk_receive 1 = .ok (.getfield 67, 3) := by decide +kernel
theorem dTk_receive_4 : decode cTk_receive 4 = .ok (.ifCond .ne 16, 3) := by decide +kernel
theorem dTk_receive_7 : decode cTk_receive 7 = .ok (.aload_n 0, 1) := by decide +kernel
theorem dTk_receive_8 : decode cTk_receive 8 = .ok (.iload_n 1, 1) := by decide +kernel
theorem dTk_receive_9 : decode cTk_receive 9 = .ok (.iload_n 2, 1) := by decide +kernel
theorem dTk_receive_10 : decode cTk_receive 10 = .ok (.aload_n 3, 1) := by decide +kernel
theorem dTk_receive_11 : decode cTk_receive 11 = .ok (.getfield 72, 3) := by decide +kernel
theorem dTk_receive_14 : decode cTk_receive 14 = .ok (.invokevirtual 75, 3) := by decide +kernel
theorem dTk_receive_17 : decode cTk_receive 17 = .ok (.goto 13, 3) := by decide +kernel
theorem dTk_receive_20 : decode cTk_receive 20 = .ok (.aload_n 0, 1) := by decide +kernel
theorem dTk_receive_21 : decode cTk_receive 21 = .ok (.iload_n 2, 1) := by decide +kernel
theorem dTk_receive_22 : decode cTk_receive 22 = .ok (.putfield 29, 3) := by decide +kernel
theorem dTk_receive_25 : decode cTk_receive 25 = .ok (.aload_n 0, 1) := by decide +kernel
theorem dTk_receive_26 : decode cTk_receive 26 = .ok (.iload_n 2, 1) := by decide +kernel
theorem dTk_receive_27 : decode cTk_receive 27 = .ok (.invokevirtual 33, 3) := by decide +kernel
theorem dTk_receive_30 : decode cTk_receive 30 = .ok (.return_, 1) := by decide +kernel
theorem dTr_detail_0 : decode cTr_detail 0 = .ok (.aload_n 0, 1) := by decide +kernel
theorem dTr_detail_1 : decode cTr_detail 1 = .ok (.getfield 20, 3) := by decide +kernel
theorem dTr_detail_4 : decode cTr_detail 4 = .ok (.iload_n 1, 1) := by decide +kernel
theorem dTr_detail_5 : decode cTr_detail 5 = .ok (.iaload, 1) := by decide +kernel
theorem dTr_detail_6 : decode cTr_detail 6 = .ok (.ireturn, 1) := by decide +kernel
theorem dTr_serve_0 : decode cTr_serve 0 = .ok (.aload_n 0, 1) := by decide +kernel
theorem dTr_serve_1 : decode cTr_serve 1 = .ok (.getfield 29, 3) := by decide +kernel
theorem dTr_serve_4 : decode cTr_serve 4 = .ok (.iload_n 1, 1) := by decide +kernel
theorem dTr_serve_5 : decode cTr_serve 5 = .ok (.iconst 0, 1) := by decide +kernel
theorem dTr_serve_6 : decode cTr_serve 6 = .ok (.bastore, 1) := by decide +kernel
theorem dTr_serve_7 : decode cTr_serve 7 = .ok (.iload_n 2, 1) := by decide +kernel
theorem dTr_serve_8 : decode cTr_serve 8 = .ok (.iload_n 1, 1) := by decide +kernel
theorem dTr_serve_9 : decode cTr_serve 9 = .ok (.if_icmp .ne 11, 3) := by decide +kernel
theorem dTr_serve_12 : decode cTr_serve 12 = .ok (.aload_n 0, 1) := by decide +kernel
theorem dTr_serve_13 : decode cTr_serve 13 = .ok (.iload_n 1, 1) := by decide +kernel
theorem dTr_serve_14 : decode cTr_serve 14 = .ok (.invokevirtual 68, 3) := by decide +kernel
theorem dTr_serve_17 : decode cTr_serve 17 = .ok (.goto 18, 3) := by decide +kernel
theorem dTr_serve_20 : decode cTr_serve 20 = .ok (.aload_n 0, 1) := by decide +kernel
theorem dTr_serve_21 : decode cTr_serve 21 = .ok (.getfield 20, 3) := by decide +kernel
theorem dTr_serve_24 : decode cTr_serve 24 = .ok (.iload_n 1, 1) := by decide +kernel
theorem dTr_serve_25 : decode cTr_serve 25 = .ok (.iload_n 2, 1) := by decide +kernel
theorem dTr_serve_26 : decode cTr_serve 26 = .ok (.iastore, 1) := by decide +kernel
theorem dTr_serve_27 : decode cTr_serve 27 = .ok (.aload_n 0, 1) := by decide +kernel
theorem dTr_serve_28 : decode cTr_serve 28 = .ok (.iload_n 1, 1) := by decide +kernel
theorem dTr_serve_29 : decode cTr_serve 29 = .ok (.iload_n 2, 1) := by decide +kernel
theorem dTr_serve_30 : decode cTr_serve 30 = .ok (.iconst 1, 1) := by decide +kernel
theorem dTr_serve_31 : decode cTr_serve 31 = .ok (.iconst 0, 1) := by decide +kernel
theorem dTr_serve_32 : decode cTr_serve 32 = .ok (.invokevirtual 64, 3) := by decide +kernel
theorem dTr_serve_35 : decode cTr_serve 35 = .ok (.return_, 1) := by decide +kernel
theorem dTr_goOn_0 : decode cTr_goOn 0 = .ok (.aload_n 0, 1) := by decide +kernel
theorem dTr_goOn_1 : decode cTr_goOn 1 = .ok (.getfield 20, 3) := by decide +kernel
theorem dTr_goOn_4 : decode cTr_goOn 4 = .ok (.iload_n 1, 1) := by decide +kernel
theorem dTr_goOn_5 : decode cTr_goOn 5 = .ok (.iaload, 1) := by decide +kernel
theorem dTr_goOn_6 : decode cTr_goOn 6 = .ok (.iload_n 1, 1) := by decide +kernel
theorem dTr_goOn_7 : decode cTr_goOn 7 = .ok (.if_icmp .ne 39, 3) := by decide +kernel
theorem dTr_goOn_10 : decode cTr_goOn 10 = .ok (.aload_n 0, 1) := by decide +kernel
theorem dTr_goOn_11 : decode cTr_goOn 11 = .ok (.getfield 36, 3) := by decide +kernel
theorem dTr_goOn_14 : decode cTr_goOn 14 = .ok (.iload_n 1, 1) := by decide +kernel
theorem dTr_goOn_15 : decode cTr_goOn 15 = .ok (.iaload, 1) := by decide +kernel
theorem dTr_goOn_16 : decode cTr_goOn 16 = .ok (.iconst 2, 1) := by decide +kernel
theorem dTr_goOn_17 : decode cTr_goOn 17 = .ok (.if_icmp .eq 29, 3) := by decide +kernel
theorem dTr_goOn_20 : decode cTr_goOn 20 = .ok (.aload_n 0, 1) := by decide +kernel
theorem dTr_goOn_21 : decode cTr_goOn 21 = .ok (.getfield 25, 3) := by decide +kernel
theorem dTr_goOn_24 : decode cTr_goOn 24 = .ok (.iload_n 1, 1) := by decide +kernel
theorem dTr_goOn_25 : decode cTr_goOn 25 = .ok (.aaload, 1) := by decide +kernel
theorem dTr_goOn_26 : decode cTr_goOn 26 = .ok (.invokevirtual 52, 3) := by decide +kernel
theorem dTr_goOn_29 : decode cTr_goOn 29 = .ok (.ifCond .ne 17, 3) := by decide +kernel
theorem dTr_goOn_32 : decode cTr_goOn 32 = .ok (.aload_n 0, 1) := by decide +kernel
theorem dTr_goOn_33 : decode cTr_goOn 33 = .ok (.iload_n 1, 1) := by decide +kernel
theorem dTr_goOn_34 : decode cTr_goOn 34 = .ok (.aload_n 0, 1) := by decide +kernel
theorem dTr_goOn_35 : decode cTr_goOn 35 = .ok (.getfield 25, 3) := by decide +kernel
theorem dTr_goOn_38 : decode cTr_goOn 38 = .ok (.iload_n 1, 1) := by decide +kernel
theorem dTr_goOn_39 : decode cTr_goOn 39 = .ok (.aaload, 1) := by decide +kernel
theorem dTr_goOn_40 : decode cTr_goOn 40 = .ok (.invokevirtual 56, 3) := by decide +kernel
theorem dTr_goOn_43 : decode cTr_goOn 43 = .ok (.invokevirtual 60, 3) := by decide +kernel
theorem dTr_goOn_46 : decode cTr_goOn 46 = .ok (.aload_n 0, 1) := by decide +kernel
theorem dTr_goOn_47 : decode cTr_goOn 47 = .ok (.getfield 20, 3) := by decide +kernel
theorem dTr_goOn_50 : decode cTr_goOn 50 = .ok (.iload_n 1, 1) := by decide +kernel
theorem dTr_goOn_51 : decode cTr_goOn 51 = .ok (.iaload, 1) := by decide +kernel
theorem dTr_goOn_52 : decode cTr_goOn 52 = .ok (.iload_n 1, 1) := by decide +kernel
theorem dTr_goOn_53 : decode cTr_goOn 53 = .ok (.if_icmp .eq 44, 3) := by decide +kernel
theorem dTr_goOn_56 : decode cTr_goOn 56 = .ok (.aload_n 0, 1) := by decide +kernel
theorem dTr_goOn_57 : decode cTr_goOn 57 = .ok (.getfield 25, 3) := by decide +kernel
theorem dTr_goOn_60 : decode cTr_goOn 60 = .ok (.iload_n 1, 1) := by decide +kernel
theorem dTr_goOn_61 : decode cTr_goOn 61 = .ok (.aaload, 1) := by decide +kernel
theorem dTr_goOn_62 : decode cTr_goOn 62 = .ok (.invokevirtual 52, 3) := by decide +kernel
theorem dTr_goOn_65 : decode cTr_goOn 65 = .ok (.ifCond .ne 32, 3) := by decide +kernel
theorem dTr_goOn_68 : decode cTr_goOn 68 = .ok (.aload_n 0, 1) := by decide +kernel
theorem dTr_goOn_69 : decode cTr_goOn 69 = .ok (.getfield 29, 3) := by decide +kernel
theorem dTr_goOn_72 : decode cTr_goOn 72 = .ok (.iload_n 1, 1) := by decide +kernel
theorem dTr_goOn_73 : decode cTr_goOn 73 = .ok (.baload, 1) := by decide +kernel
theorem dTr_goOn_74 : decode cTr_goOn 74 = .ok (.ifCond .ne 23, 3) := by decide +kernel
theorem dTr_goOn_77 : decode cTr_goOn 77 = .ok (.aload_n 0, 1) := by decide +kernel
theorem dTr_goOn_78 : decode cTr_goOn 78 = .ok (.getfield 29, 3) := by decide +kernel
theorem dTr_goOn_81 : decode cTr_goOn 81 = .ok (.iload_n 1, 1) := by decide +kernel
theorem dTr_goOn_82 : decode cTr_goOn 82 = .ok (.iconst 1, 1) := by decide +kernel
theorem dTr_goOn_83 : decode cTr_goOn 83 = .ok (.bastore, 1) := by decide +kernel
theorem dTr_goOn_84 : decode cTr_goOn 84 = .ok (.aload_n 0, 1) := by decide +kernel
theorem dTr_goOn_85 : decode cTr_goOn 85 = .ok (.iload_n 1, 1) := by decide +kernel
theorem dTr_goOn_86 : decode cTr_goOn 86 = .ok (.aload_n 0, 1) := by decide +kernel
theorem dTr_goOn_87 : decode cTr_goOn 87 = .ok (.getfield 20, 3) := by decide +kernel
theorem dTr_goOn_90 : decode cTr_goOn 90 = .ok (.iload_n 1, 1) := by decide +kernel
theorem dTr_goOn_91 : decode cTr_goOn 91 = .ok (.iaload, 1) := by decide +kernel
theorem dTr_goOn_92 : decode cTr_goOn 92 = .ok (.iconst 0, 1) := by decide +kernel
theorem dTr_goOn_93 : decode cTr_goOn 93 = .ok (.iconst 0, 1) := by decide +kernel
theorem dTr_goOn_94 : decode cTr_goOn 94 = .ok (.invokevirtual 64, 3) := by decide +kernel
theorem dTr_goOn_97 : decode cTr_goOn 97 = .ok (.return_, 1) := by decide +kernel
theorem dTr_ask_0 : decode cTr_ask 0 = .ok (.aload_n 0, 1) := by decide +kernel
theorem dTr_ask_1 : decode cTr_ask 1 = .ok (.getfield 36, 3) := by decide +kernel
theorem dTr_ask_4 : decode cTr_ask 4 = .ok (.iload_n 1, 1) := by decide +kernel
theorem dTr_ask_5 : decode cTr_ask 5 = .ok (.iconst 1, 1) := by decide +kernel
theorem dTr_ask_6 : decode cTr_ask 6 = .ok (.iastore, 1) := by decide +kernel
theorem dTr_ask_7 : decode cTr_ask 7 = .ok (.aload_n 0, 1) := by decide +kernel
theorem dTr_ask_8 : decode cTr_ask 8 = .ok (.getfield 25, 3) := by decide +kernel
theorem dTr_ask_11 : decode cTr_ask 11 = .ok (.iload_n 1, 1) := by decide +kernel
theorem dTr_ask_12 : decode cTr_ask 12 = .ok (.aaload, 1) := by decide +kernel
theorem dTr_ask_13 : decode cTr_ask 13 = .ok (.iload_n 1, 1) := by decide +kernel
theorem dTr_ask_14 : decode cTr_ask 14 = .ok (.invokevirtual 39, 3) := by decide +kernel
theorem dTr_ask_17 : decode cTr_ask 17 = .ok (.aload_n 0, 1) := by decide +kernel
theorem dTr_ask_18 : decode cTr_ask 18 = .ok (.iload_n 1, 1) := by decide +kernel
theorem dTr_ask_19 : decode cTr_ask 19 = .ok (.invokevirtual 43, 3) := by decide +kernel
theorem dTr_ask_22 : decode cTr_ask 22 = .ok (.return_, 1) := by decide +kernel
theorem dTr_release_0 : decode cTr_release 0 = .ok (.aload_n 0, 1) := by decide +kernel
theorem dTr_release_1 : decode cTr_release 1 = .ok (.getfield 36, 3) := by decide +kernel
theorem dTr_release_4 : decode cTr_release 4 = .ok (.iload_n 1, 1) := by decide +kernel
theorem dTr_release_5 : decode cTr_release 5 = .ok (.iconst 0, 1) := by decide +kernel
theorem dTr_release_6 : decode cTr_release 6 = .ok (.iastore, 1) := by decide +kernel
theorem dTr_release_7 : decode cTr_release 7 = .ok (.aload_n 0, 1) := by decide +kernel
theorem dTr_release_8 : decode cTr_release 8 = .ok (.iload_n 1, 1) := by decide +kernel
theorem dTr_release_9 : decode cTr_release 9 = .ok (.invokevirtual 43, 3) := by decide +kernel
theorem dTr_release_12 : decode cTr_release 12 = .ok (.return_, 1) := by decide +kernel
theorem dTr_receive_0 : decode cTr_receive 0 = .ok (.aload_n 3, 1) := by decide +kernel
theorem dTr_receive_1 : decode cTr_receive 1 = .ok (.getfield 46, 3) := by decide +kernel
theorem dTr_receive_4 : decode cTr_receive 4 = .ok (.ifCond .ne 16, 3) := by decide +kernel
theorem dTr_receive_7 : decode cTr_receive 7 = .ok (.aload_n 0, 1) := by decide +kernel
theorem dTr_receive_8 : decode cTr_receive 8 = .ok (.getfield 25, 3) := by decide +kernel
theorem dTr_receive_11 : decode cTr_receive 11 = .ok (.iload_n 2, 1) := by decide +kernel
theorem dTr_receive_12 : decode cTr_receive 12 = .ok (.aaload, 1) := by decide +kernel
theorem dTr_receive_13 : decode cTr_receive 13 = .ok (.iload_n 1, 1) := by decide +kernel
theorem dTr_receive_14 : decode cTr_receive 14 = .ok (.invokevirtual 39, 3) := by decide +kernel
theorem dTr_receive_17 : decode cTr_receive 17 = .ok (.goto 10, 3) := by decide +kernel
theorem dTr_receive_20 : decode cTr_receive 20 = .ok (.aload_n 0, 1) := by decide +kernel
theorem dTr_receive_21 : decode cTr_receive 21 = .ok (.getfield 20, 3) := by decide +kernel
theorem dTr_receive_24 : decode cTr_receive 24 = .ok (.iload_n 2, 1) := by decide +kernel
theorem dTr_receive_25 : decode cTr_receive 25 = .ok (.iload_n 2, 1) := by decide +kernel
theorem dTr_receive_26 : decode cTr_receive 26 = .ok (.iastore, 1) := by decide +kernel
theorem dTr_receive_27 : decode cTr_receive 27 = .ok (.aload_n 0, 1) := by decide +kernel
theorem dTr_receive_28 : decode cTr_receive 28 = .ok (.iload_n 2, 1) := by decide +kernel
theorem dTr_receive_29 : decode cTr_receive 29 = .ok (.invokevirtual 43, 3) := by decide +kernel
theorem dTr_receive_32 : decode cTr_receive 32 = .ok (.return_, 1) := by decide +kernel
theorem dEl_condition_0 : decode cEl_condition 0 = .ok (.aload_n 0, 1) := by decide +kernel
theorem dEl_condition_1 : decode cEl_condition 1 = .ok (.getfield 19, 3) := by decide +kernel
theorem dEl_condition_4 : decode cEl_condition 4 = .ok (.iload_n 1, 1) := by decide +kernel
theorem dEl_condition_5 : decode cEl_condition 5 = .ok (.iaload, 1) := by decide +kernel
theorem dEl_condition_6 : decode cEl_condition 6 = .ok (.ireturn, 1) := by decide +kernel
theorem dEl_detail_0 : decode cEl_detail 0 = .ok (.aload_n 0, 1) := by decide +kernel
theorem dEl_detail_1 : decode cEl_detail 1 = .ok (.getfield 9, 3) := by decide +kernel
theorem dEl_detail_4 : decode cEl_detail 4 = .ok (.iload_n 1, 1) := by decide +kernel
theorem dEl_detail_5 : decode cEl_detail 5 = .ok (.baload, 1) := by decide +kernel
theorem dEl_detail_6 : decode cEl_detail 6 = .ok (.ifCond .eq 16, 3) := by decide +kernel
theorem dEl_detail_9 : decode cEl_detail 9 = .ok (.aload_n 0, 1) := by decide +kernel
theorem dEl_detail_10 : decode cEl_detail 10 = .ok (.getfield 15, 3) := by decide +kernel
theorem dEl_detail_13 : decode cEl_detail 13 = .ok (.iload_n 1, 1) := by decide +kernel
theorem dEl_detail_14 : decode cEl_detail 14 = .ok (.iaload, 1) := by decide +kernel
theorem dEl_detail_15 : decode cEl_detail 15 = .ok (.sipush 1000, 3) := by decide +kernel
theorem dEl_detail_18 : decode cEl_detail 18 = .ok (.iadd, 1) := by decide +kernel
theorem dEl_detail_19 : decode cEl_detail 19 = .ok (.goto 9, 3) := by decide +kernel
theorem dEl_detail_22 : decode cEl_detail 22 = .ok (.aload_n 0, 1) := by decide +kernel
theorem dEl_detail_23 : decode cEl_detail 23 = .ok (.getfield 15, 3) := by decide +kernel
theorem dEl_detail_26 : decode cEl_detail 26 = .ok (.iload_n 1, 1) := by decide +kernel
theorem dEl_detail_27 : decode cEl_detail 27 = .ok (.iaload, 1) := by decide +kernel
theorem dEl_detail_28 : decode cEl_detail 28 = .ok (.ireturn, 1) := by decide +kernel
theorem dEl_sendOn_0 : decode cEl_sendOn 0 = .ok (.aload_n 0, 1) := by decide +kernel
theorem dEl_sendOn_1 : decode cEl_sendOn 1 = .ok (.iload_n 1, 1) := by decide +kernel
theorem dEl_sendOn_2 : decode cEl_sendOn 2 = .ok (.iload_n 1, 1) := by decide +kernel
theorem dEl_sendOn_3 : decode cEl_sendOn 3 = .ok (.iconst 1, 1) := by decide +kernel
theorem dEl_sendOn_4 : decode cEl_sendOn 4 = .ok (.iadd, 1) := by decide +kernel
theorem dEl_sendOn_5 : decode cEl_sendOn 5 = .ok (.iconst 4, 1) := by decide +kernel
theorem dEl_sendOn_6 : decode cEl_sendOn 6 = .ok (.irem, 1) := by decide +kernel
theorem dEl_sendOn_7 : decode cEl_sendOn 7 = .ok (.iload_n 2, 1) := by decide +kernel
theorem dEl_sendOn_8 : decode cEl_sendOn 8 = .ok (.iload_n 3, 1) := by decide +kernel
theorem dEl_sendOn_9 : decode cEl_sendOn 9 = .ok (.invokevirtual 52, 3) := by decide +kernel
theorem dEl_sendOn_12 : decode cEl_sendOn 12 = .ok (.return_, 1) := by decide +kernel
theorem dEl_stand_0 : decode cEl_stand 0 = .ok (.aload_n 0, 1) := by decide +kernel
theorem dEl_stand_1 : decode cEl_stand 1 = .ok (.getfield 9, 3) := by decide +kernel
theorem dEl_stand_4 : decode cEl_stand 4 = .ok (.iload_n 1, 1) := by decide +kernel
theorem dEl_stand_5 : decode cEl_stand 5 = .ok (.iconst 1, 1) := by decide +kernel
theorem dEl_stand_6 : decode cEl_stand 6 = .ok (.bastore, 1) := by decide +kernel
theorem dEl_stand_7 : decode cEl_stand 7 = .ok (.aload_n 0, 1) := by decide +kernel
theorem dEl_stand_8 : decode cEl_stand 8 = .ok (.iload_n 1, 1) := by decide +kernel
theorem dEl_stand_9 : decode cEl_stand 9 = .ok (.iconst 0, 1) := by decide +kernel
theorem dEl_stand_10 : decode cEl_stand 10 = .ok (.aload_n 0, 1) := by decide +kernel
theorem dEl_stand_11 : decode cEl_stand 11 = .ok (.getfield 15, 3) := by decide +kernel
theorem dEl_stand_14 : decode cEl_stand 14 = .ok (.iload_n 1, 1) := by decide +kernel
theorem dEl_stand_15 : decode cEl_stand 15 = .ok (.iaload, 1) := by decide +kernel
theorem dEl_stand_16 : decode cEl_stand 16 = .ok (.invokevirtual 28, 3) := by decide +kernel
theorem dEl_stand_19 : decode cEl_stand 19 = .ok (.return_, 1) := by decide +kernel
theorem dEl_takeElect_0 : decode cEl_takeElect 0 = .ok (.iload_n 2, 1) := by decide +kernel
theorem dEl_takeElect_1 : decode cEl_takeElect 1 = .ok (.aload_n 0, 1) := by decide +kernel
theorem dEl_takeElect_2 : decode cEl_takeElect 2 = .ok (.getfield 15, 3) := by decide +kernel
theorem dEl_takeElect_5 : decode cEl_takeElect 5 = .ok (.iload_n 1, 1) := by decide +kernel
theorem dEl_takeElect_6 : decode cEl_takeElect 6 = .ok (.iaload, 1) := by decide +kernel
theorem dEl_takeElect_7 : decode cEl_takeElect 7 = .ok (.if_icmp .le 20, 3) := by decide +kernel
theorem dEl_takeElect_10 : decode cEl_takeElect 10 = .ok (.aload_n 0, 1) := by decide +kernel
theorem dEl_takeElect_11 : decode cEl_takeElect 11 = .ok (.getfield 9, 3) := by decide +kernel
theorem dEl_takeElect_14 : decode cEl_takeElect 14 = .ok (.iload_n 1, 1) := by decide +kernel
theorem dEl_takeElect_15 : decode cEl_takeElect 15 = .ok (.iconst 1, 1) := by decide +kernel
theorem dEl_takeElect_16 : decode cEl_takeElect 16 = .ok (.bastore, 1) := by decide +kernel
theorem dEl_takeElect_17 : decode cEl_takeElect 17 = .ok (.aload_n 0, 1) := by decide +kernel
theorem dEl_takeElect_18 : decode cEl_takeElect 18 = .ok (.iload_n 1, 1) := by decide +kernel
theorem dEl_takeElect_19 : decode cEl_takeElect 19 = .ok (.iconst 0, 1) := by decide +kernel
theorem dEl_takeElect_20 : decode cEl_takeElect 20 = .ok (.iload_n 2, 1) := by decide +kernel
theorem dEl_takeElect_21 : decode cEl_takeElect 21 = .ok (.invokevirtual 28, 3) := by decide +kernel
theorem dEl_takeElect_24 : decode cEl_takeElect 24 = .ok (.goto 51, 3) := by decide +kernel
theorem dEl_takeElect_27 : decode cEl_takeElect 27 = .ok (.iload_n 2, 1) := by decide +kernel
theorem dEl_takeElect_28 : decode cEl_takeElect 28 = .ok (.aload_n 0, 1) := by decide +kernel
theorem dEl_takeElect_29 : decode cEl_takeElect 29 = .ok (.getfield 15, 3) := by decide +kernel
theorem dEl_takeElect_32 : decode cEl_takeElect 32 = .ok (.iload_n 1, 1) := by decide +kernel
theorem dEl_takeElect_33 : decode cEl_takeElect 33 = .ok (.iaload, 1) := by decide +kernel
theorem dEl_takeElect_34 : decode cEl_takeElect 34 = .ok (.if_icmp .ne 27, 3) := by decide +kernel
theorem dEl_takeElect_37 : decode cEl_takeElect 37 = .ok (.aload_n 0, 1) := by decide +kernel
theorem dEl_takeElect_38 : decode cEl_takeElect 38 = .ok (.getfield 9, 3) := by decide +kernel
theorem dEl_takeElect_41 : decode cEl_takeElect 41 = .ok (.iload_n 1, 1) := by decide +kernel
theorem dEl_takeElect_42 : decode cEl_takeElect 42 = .ok (.iconst 0, 1) := by decide +kernel
theorem dEl_takeElect_43 : decode cEl_takeElect 43 = .ok (.bastore, 1) := by decide +kernel
theorem dEl_takeElect_44 : decode cEl_takeElect 44 = .ok (.aload_n 0, 1) := by decide +kernel
theorem dEl_takeElect_45 : decode cEl_takeElect 45 = .ok (.getfield 19, 3) := by decide +kernel
theorem dEl_takeElect_48 : decode cEl_takeElect 48 = .ok (.iload_n 1, 1) := by decide +kernel
theorem dEl_takeElect_49 : decode cEl_takeElect 49 = .ok (.iload_n 2, 1) := by decide +kernel
theorem dEl_takeElect_50 : decode cEl_takeElect 50 = .ok (.iastore, 1) := by decide +kernel
theorem dEl_takeElect_51 : decode cEl_takeElect 51 = .ok (.aload_n 0, 1) := by decide +kernel
theorem dEl_takeElect_52 : decode cEl_takeElect 52 = .ok (.iload_n 1, 1) := by decide +kernel
theorem dEl_takeElect_53 : decode cEl_takeElect 53 = .ok (.iconst 1, 1) := by decide +kernel
theorem dEl_takeElect_54 : decode cEl_takeElect 54 = .ok (.iload_n 2, 1) := by decide +kernel
theorem dEl_takeElect_55 : decode cEl_takeElect 55 = .ok (.invokevirtual 28, 3) := by decide +kernel
theorem dEl_takeElect_58 : decode cEl_takeElect 58 = .ok (.goto 17, 3) := by decide +kernel
theorem dEl_takeElect_61 : decode cEl_takeElect 61 = .ok (.aload_n 0, 1) := by decide +kernel
theorem dEl_takeElect_62 : decode cEl_takeElect 62 = .ok (.getfield 9, 3) := by decide +kernel
theorem dEl_takeElect_65 : decode cEl_takeElect 65 = .ok (.iload_n 1, 1) := by decide +kernel
theorem dEl_takeElect_66 : decode cEl_takeElect 66 = .ok (.baload, 1) := by decide +kernel
theorem dEl_takeElect_67 : decode cEl_takeElect 67 = .ok (.ifCond .ne 8, 3) := by decide +kernel
theorem dEl_takeElect_70 : decode cEl_takeElect 70 = .ok (.aload_n 0, 1) := by decide +kernel
theorem dEl_takeElect_71 : decode cEl_takeElect 71 = .ok (.iload_n 1, 1) := by decide +kernel
theorem dEl_takeElect_72 : decode cEl_takeElect 72 = .ok (.invokevirtual 48, 3) := by decide +kernel
theorem dEl_takeElect_75 : decode cEl_takeElect 75 = .ok (.return_, 1) := by decide +kernel
theorem dEl_takeLeader_0 : decode cEl_takeLeader 0 = .ok (.iload_n 2, 1) := by decide +kernel
theorem dEl_takeLeader_1 : decode cEl_takeLeader 1 = .ok (.aload_n 0, 1) := by decide +kernel
theorem dEl_takeLeader_2 : decode cEl_takeLeader 2 = .ok (.getfield 15, 3) := by decide +kernel
theorem dEl_takeLeader_5 : decode cEl_takeLeader 5 = .ok (.iload_n 1, 1) := by decide +kernel
theorem dEl_takeLeader_6 : decode cEl_takeLeader 6 = .ok (.iaload, 1) := by decide +kernel
theorem dEl_takeLeader_7 : decode cEl_takeLeader 7 = .ok (.if_icmp .eq 24, 3) := by decide +kernel
theorem dEl_takeLeader_10 : decode cEl_takeLeader 10 = .ok (.aload_n 0, 1) := by decide +kernel
theorem dEl_takeLeader_11 : decode cEl_takeLeader 11 = .ok (.getfield 19, 3) := by decide +kernel
theorem dEl_takeLeader_14 : decode cEl_takeLeader 14 = .ok (.iload_n 1, 1) := by decide +kernel
theorem dEl_takeLeader_15 : decode cEl_takeLeader 15 = .ok (.iload_n 2, 1) := by decide +kernel
theorem dEl_takeLeader_16 : decode cEl_takeLeader 16 = .ok (.iastore, 1) := by decide +kernel
theorem dEl_takeLeader_17 : decode cEl_takeLeader 17 = .ok (.aload_n 0, 1) := by decide +kernel
theorem dEl_takeLeader_18 : decode cEl_takeLeader 18 = .ok (.getfield 9, 3) := by decide +kernel
theorem dEl_takeLeader_21 : decode cEl_takeLeader 21 = .ok (.iload_n 1, 1) := by decide +kernel
theorem dEl_takeLeader_22 : decode cEl_takeLeader 22 = .ok (.iconst 0, 1) := by decide +kernel
theorem dEl_takeLeader_23 : decode cEl_takeLeader 23 = .ok (.bastore, 1) := by decide +kernel
theorem dEl_takeLeader_24 : decode cEl_takeLeader 24 = .ok (.aload_n 0, 1) := by decide +kernel
theorem dEl_takeLeader_25 : decode cEl_takeLeader 25 = .ok (.iload_n 1, 1) := by decide +kernel
theorem dEl_takeLeader_26 : decode cEl_takeLeader 26 = .ok (.iconst 1, 1) := by decide +kernel
theorem dEl_takeLeader_27 : decode cEl_takeLeader 27 = .ok (.iload_n 2, 1) := by decide +kernel
theorem dEl_takeLeader_28 : decode cEl_takeLeader 28 = .ok (.invokevirtual 28, 3) := by decide +kernel
theorem dEl_takeLeader_31 : decode cEl_takeLeader 31 = .ok (.return_, 1) := by decide +kernel
theorem dEl_receive_0 : decode cEl_receive 0 = .ok (.aload_n 3, 1) := by decide +kernel
theorem dEl_receive_1 : decode cEl_receive 1 = .ok (.getfield 32, 3) := by decide +kernel
theorem dEl_receive_4 : decode cEl_receive 4 = .ok (.ifCond .ne 15, 3) := by decide +kernel
theorem dEl_receive_7 : decode cEl_receive 7 = .ok (.aload_n 0, 1) := by decide +kernel
theorem dEl_receive_8 : decode cEl_receive 8 = .ok (.iload_n 2, 1) := by decide +kernel
theorem dEl_receive_9 : decode cEl_receive 9 = .ok (.aload_n 3, 1) := by decide +kernel
theorem dEl_receive_10 : decode cEl_receive 10 = .ok (.getfield 38, 3) := by decide +kernel
theorem dEl_receive_13 : decode cEl_receive 13 = .ok (.invokevirtual 41, 3) := by decide +kernel
theorem dEl_receive_16 : decode cEl_receive 16 = .ok (.goto 12, 3) := by decide +kernel
theorem dEl_receive_19 : decode cEl_receive 19 = .ok (.aload_n 0, 1) := by decide +kernel
theorem dEl_receive_20 : decode cEl_receive 20 = .ok (.iload_n 2, 1) := by decide +kernel
theorem dEl_receive_21 : decode cEl_receive 21 = .ok (.aload_n 3, 1) := by decide +kernel
theorem dEl_receive_22 : decode cEl_receive 22 = .ok (.getfield 38, 3) := by decide +kernel
theorem dEl_receive_25 : decode cEl_receive 25 = .ok (.invokevirtual 45, 3) := by decide +kernel
theorem dEl_receive_28 : decode cEl_receive 28 = .ok (.return_, 1) := by decide +kernel
theorem dWk_isEngaged_0 : decode cWk_isEngaged 0 = .ok (.aload_n 0, 1) := by decide +kernel
theorem dWk_isEngaged_1 : decode cWk_isEngaged 1 = .ok (.getfield 15, 3) := by decide +kernel
theorem dWk_isEngaged_4 : decode cWk_isEngaged 4 = .ok (.iload_n 1, 1) := by decide +kernel
theorem dWk_isEngaged_5 : decode cWk_isEngaged 5 = .ok (.if_icmp .eq 13, 3) := by decide +kernel
theorem dWk_isEngaged_8 : decode cWk_isEngaged 8 = .ok (.aload_n 0, 1) := by decide +kernel
theorem dWk_isEngaged_9 : decode cWk_isEngaged 9 = .ok (.getfield 19, 3) := by decide +kernel
theorem dWk_isEngaged_12 : decode cWk_isEngaged 12 = .ok (.iload_n 1, 1) := by decide +kernel
theorem dWk_isEngaged_13 : decode cWk_isEngaged 13 = .ok (.iaload, 1) := by decide +kernel
theorem dWk_isEngaged_14 : decode cWk_isEngaged 14 = .ok (.iconst (-1), 1) := by decide +kernel
theorem dWk_isEngaged_15 : decode cWk_isEngaged 15 = .ok (.if_icmp .eq 7, 3) := by decide +kernel
theorem dWk_isEngaged_18 : decode cWk_isEngaged 18 = .ok (.iconst 1, 1) := by decide +kernel
theorem dWk_isEngaged_19 : decode cWk_isEngaged 19 = .ok (.goto 4, 3) := by decide +kernel
theorem dWk_isEngaged_22 : decode cWk_isEngaged 22 = .ok (.iconst 0, 1) := by decide +kernel
theorem dWk_isEngaged_23 : decode cWk_isEngaged 23 = .ok (.ireturn, 1) := by decide +kernel
theorem dWk_condition_0 : decode cWk_condition 0 = .ok (.aload_n 0, 1) := by decide +kernel
theorem dWk_condition_1 : decode cWk_condition 1 = .ok (.getfield 9, 3) := by decide +kernel
theorem dWk_condition_4 : decode cWk_condition 4 = .ok (.iload_n 1, 1) := by decide +kernel
theorem dWk_condition_5 : decode cWk_condition 5 = .ok (.baload, 1) := by decide +kernel
theorem dWk_condition_6 : decode cWk_condition 6 = .ok (.ifCond .eq 7, 3) := by decide +kernel
theorem dWk_condition_9 : decode cWk_condition 9 = .ok (.iconst 1, 1) := by decide +kernel
theorem dWk_condition_10 : decode cWk_condition 10 = .ok (.goto 4, 3) := by decide +kernel
theorem dWk_condition_13 : decode cWk_condition 13 = .ok (.iconst 0, 1) := by decide +kernel
theorem dWk_condition_14 : decode cWk_condition 14 = .ok (.aload_n 0, 1) := by decide +kernel
theorem dWk_condition_15 : decode cWk_condition 15 = .ok (.iload_n 1, 1) := by decide +kernel
theorem dWk_condition_16 : decode cWk_condition 16 = .ok (.invokevirtual 26, 3) := by decide +kernel
theorem dWk_condition_19 : decode cWk_condition 19 = .ok (.ifCond .eq 7, 3) := by decide +kernel
theorem dWk_condition_22 : decode cWk_condition 22 = .ok (.iconst 2, 1) := by decide +kernel
theorem dWk_condition_23 : decode cWk_condition 23 = .ok (.goto 4, 3) := by decide +kernel
theorem dWk_condition_26 : decode cWk_condition 26 = .ok (.iconst 0, 1) := by decide +kernel
theorem dWk_condition_27 : decode cWk_condition 27 = .ok (.iadd, 1) := by decide +kernel
theorem dWk_condition_28 : decode cWk_condition 28 = .ok (.iconst 4, 1) := by decide +kernel
theorem dWk_condition_29 : decode cWk_condition 29 = .ok (.aload_n 0, 1) := by decide +kernel
theorem dWk_condition_30 : decode cWk_condition 30 = .ok (.getfield 23, 3) := by decide +kernel
theorem dWk_condition_33 : decode cWk_condition 33 = .ok (.iload_n 1, 1) := by decide +kernel
theorem dWk_condition_34 : decode cWk_condition 34 = .ok (.iaload, 1) := by decide +kernel
theorem dWk_condition_35 : decode cWk_condition 35 = .ok (.imul, 1) := by decide +kernel
theorem dWk_condition_36 : decode cWk_condition 36 = .ok (.iadd, 1) := by decide +kernel
theorem dWk_condition_37 : decode cWk_condition 37 = .ok (.ireturn, 1) := by decide +kernel
theorem dWk_detail_0 : decode cWk_detail 0 = .ok (.aload_n 0, 1) := by decide +kernel
theorem dWk_detail_1 : decode cWk_detail 1 = .ok (.getfield 19, 3) := by decide +kernel
theorem dWk_detail_4 : decode cWk_detail 4 = .ok (.iload_n 1, 1) := by decide +kernel
theorem dWk_detail_5 : decode cWk_detail 5 = .ok (.iaload, 1) := by decide +kernel
theorem dWk_detail_6 : decode cWk_detail 6 = .ok (.ireturn, 1) := by decide +kernel
theorem dWk_isOver_0 : decode cWk_isOver 0 = .ok (.iconst 0, 1) := by decide +kernel
theorem dWk_isOver_1 : decode cWk_isOver 1 = .ok (.istore_n 1, 1) := by decide +kernel
theorem dWk_isOver_2 : decode cWk_isOver 2 = .ok (.iload_n 1, 1) := by decide +kernel
theorem dWk_isOver_3 : decode cWk_isOver 3 = .ok (.iconst 4, 1) := by decide +kernel
theorem dWk_isOver_4 : decode cWk_isOver 4 = .ok (.if_icmp .ge 37, 3) := by decide +kernel
theorem dWk_isOver_7 : decode cWk_isOver 7 = .ok (.aload_n 0, 1) := by decide +kernel
theorem dWk_isOver_8 : decode cWk_isOver 8 = .ok (.getfield 9, 3) := by decide +kernel
theorem dWk_isOver_11 : decode cWk_isOver 11 = .ok (.iload_n 1, 1) := by decide +kernel
theorem dWk_isOver_12 : decode cWk_isOver 12 = .ok (.baload, 1) := by decide +kernel
theorem dWk_isOver_13 : decode cWk_isOver 13 = .ok (.ifCond .ne 20, 3) := by decide +kernel
theorem dWk_isOver_16 : decode cWk_isOver 16 = .ok (.aload_n 0, 1) := by decide +kernel
theorem dWk_isOver_17 : decode cWk_isOver 17 = .ok (.iload_n 1, 1) := by decide +kernel
theorem dWk_isOver_18 : decode cWk_isOver 18 = .ok (.invokevirtual 26, 3) := by decide +kernel
theorem dWk_isOver_21 : decode cWk_isOver 21 = .ok (.ifCond .ne 12, 3) := by decide +kernel
theorem dWk_isOver_24 : decode cWk_isOver 24 = .ok (.aload_n 0, 1) := by decide +kernel
theorem dWk_isOver_25 : decode cWk_isOver 25 = .ok (.getfield 23, 3) := by decide +kernel
theorem dWk_isOver_28 : decode cWk_isOver 28 = .ok (.iload_n 1, 1) := by decide +kernel
theorem dWk_isOver_29 : decode cWk_isOver 29 = .ok (.iaload, 1) := by decide +kernel
theorem dWk_isOver_30 : decode cWk_isOver 30 = .ok (.ifCond .eq 5, 3) := by decide +kernel
theorem dWk_isOver_33 : decode cWk_isOver 33 = .ok (.iconst 0, 1) := by decide +kernel
theorem dWk_isOver_34 : decode cWk_isOver 34 = .ok (.ireturn, 1) := by decide +kernel
theorem dWk_isOver_35 : decode cWk_isOver 35 = .ok (.iinc 1 1, 3) := by decide +kernel
theorem dWk_isOver_38 : decode cWk_isOver 38 = .ok (.goto (-36), 3) := by decide +kernel
theorem dWk_isOver_41 : decode cWk_isOver 41 = .ok (.iconst 1, 1) := by decide +kernel
theorem dWk_isOver_42 : decode cWk_isOver 42 = .ok (.ireturn, 1) := by decide +kernel
theorem dWk_hasMostUnanswered_0 : decode cWk_hasMostUnanswered 0 = .ok (.aload_n 0, 1) := by decide +kernel
theorem dWk_hasMostUnanswered_1 : decode cWk_hasMostUnanswered 1 = .ok (.getfield 23, 3) := by decide +kernel
theorem dWk_hasMostUnanswered_4 : decode cWk_hasMostUnanswered 4 = .ok (.iload_n 1, 1) := by decide +kernel
theorem dWk_hasMostUnanswered_5 : decode cWk_hasMostUnanswered 5 = .ok (.iaload, 1) := by decide +kernel
theorem dWk_hasMostUnanswered_6 : decode cWk_hasMostUnanswered 6 = .ok (.bipush 20, 2) := by decide +kernel
theorem dWk_hasMostUnanswered_8 : decode cWk_hasMostUnanswered 8 = .ok (.if_icmp .lt 7, 3) := by decide +kernel
theorem dWk_hasMostUnanswered_11 : decode cWk_hasMostUnanswered 11 = .ok (.iconst 1, 1) := by decide +kernel
theorem dWk_hasMostUnanswered_12 : decode cWk_hasMostUnanswered 12 = .ok (.goto 4, 3) := by decide +kernel
theorem dWk_hasMostUnanswered_15 : decode cWk_hasMostUnanswered 15 = .ok (.iconst 0, 1) := by decide +kernel
theorem dWk_hasMostUnanswered_16 : decode cWk_hasMostUnanswered 16 = .ok (.ireturn, 1) := by decide +kernel
theorem dWk_plant_0 : decode cWk_plant 0 = .ok (.aload_n 0, 1) := by decide +kernel
theorem dWk_plant_1 : decode cWk_plant 1 = .ok (.iload_n 1, 1) := by decide +kernel
theorem dWk_plant_2 : decode cWk_plant 2 = .ok (.putfield 15, 3) := by decide +kernel
theorem dWk_plant_5 : decode cWk_plant 5 = .ok (.aload_n 0, 1) := by decide +kernel
theorem dWk_plant_6 : decode cWk_plant 6 = .ok (.getfield 9, 3) := by decide +kernel
theorem dWk_plant_9 : decode cWk_plant 9 = .ok (.iload_n 1, 1) := by decide +kernel
theorem dWk_plant_10 : decode cWk_plant 10 = .ok (.iconst 1, 1) := by decide +kernel
theorem dWk_plant_11 : decode cWk_plant 11 = .ok (.bastore, 1) := by decide +kernel
theorem dWk_plant_12 : decode cWk_plant 12 = .ok (.return_, 1) := by decide +kernel
theorem dWk_share_0 : decode cWk_share 0 = .ok (.aload_n 0, 1) := by decide +kernel
theorem dWk_share_1 : decode cWk_share 1 = .ok (.getfield 23, 3) := by decide +kernel
theorem dWk_share_4 : decode cWk_share 4 = .ok (.iload_n 1, 1) := by decide +kernel
theorem dWk_share_5 : decode cWk_share 5 = .ok (.dup2, 1) := by decide +kernel
theorem dWk_share_6 : decode cWk_share 6 = .ok (.iaload, 1) := by decide +kernel
theorem dWk_share_7 : decode cWk_share 7 = .ok (.iconst 1, 1) := by decide +kernel
theorem dWk_share_8 : decode cWk_share 8 = .ok (.iadd, 1) := by decide +kernel
theorem dWk_share_9 : decode cWk_share 9 = .ok (.iastore, 1) := by decide +kernel
theorem dWk_share_10 : decode cWk_share 10 = .ok (.aload_n 0, 1) := by decide +kernel
theorem dWk_share_11 : decode cWk_share 11 = .ok (.iload_n 1, 1) := by decide +kernel
theorem dWk_share_12 : decode cWk_share 12 = .ok (.iload_n 2, 1) := by decide +kernel
theorem dWk_share_13 : decode cWk_share 13 = .ok (.iconst 0, 1) := by decide +kernel
theorem dWk_share_14 : decode cWk_share 14 = .ok (.iconst 0, 1) := by decide +kernel
theorem dWk_share_15 : decode cWk_share 15 = .ok (.invokevirtual 30, 3) := by decide +kernel
theorem dWk_share_18 : decode cWk_share 18 = .ok (.return_, 1) := by decide +kernel
theorem dWk_settle_0 : decode cWk_settle 0 = .ok (.aload_n 0, 1) := by decide +kernel
theorem dWk_settle_1 : decode cWk_settle 1 = .ok (.getfield 9, 3) := by decide +kernel
theorem dWk_settle_4 : decode cWk_settle 4 = .ok (.iload_n 1, 1) := by decide +kernel
theorem dWk_settle_5 : decode cWk_settle 5 = .ok (.baload, 1) := by decide +kernel
theorem dWk_settle_6 : decode cWk_settle 6 = .ok (.ifCond .ne 12, 3) := by decide +kernel
theorem dWk_settle_9 : decode cWk_settle 9 = .ok (.aload_n 0, 1) := by decide +kernel
theorem dWk_settle_10 : decode cWk_settle 10 = .ok (.getfield 23, 3) := by decide +kernel
theorem dWk_settle_13 : decode cWk_settle 13 = .ok (.iload_n 1, 1) := by decide +kernel
theorem dWk_settle_14 : decode cWk_settle 14 = .ok (.iaload, 1) := by decide +kernel
theorem dWk_settle_15 : decode cWk_settle 15 = .ok (.ifCond .eq 4, 3) := by decide +kernel
theorem dWk_settle_18 : decode cWk_settle 18 = .ok (.return_, 1) := by decide +kernel
theorem dWk_settle_19 : decode cWk_settle 19 = .ok (.aload_n 0, 1) := by decide +kernel
theorem dWk_settle_20 : decode cWk_settle 20 = .ok (.getfield 19, 3) := by decide +kernel
theorem dWk_settle_23 : decode cWk_settle 23 = .ok (.iload_n 1, 1) := by decide +kernel
theorem dWk_settle_24 : decode cWk_settle 24 = .ok (.iaload, 1) := by decide +kernel
theorem dWk_settle_25 : decode cWk_settle 25 = .ok (.iconst (-1), 1) := by decide +kernel
theorem dWk_settle_26 : decode cWk_settle 26 = .ok (.if_icmp .eq 25, 3) := by decide +kernel
theorem dWk_settle_29 : decode cWk_settle 29 = .ok (.aload_n 0, 1) := by decide +kernel
theorem dWk_settle_30 : decode cWk_settle 30 = .ok (.getfield 19, 3) := by decide +kernel
theorem dWk_settle_33 : decode cWk_settle 33 = .ok (.iload_n 1, 1) := by decide +kernel
theorem dWk_settle_34 : decode cWk_settle 34 = .ok (.iaload, 1) := by decide +kernel
theorem dWk_settle_35 : decode cWk_settle 35 = .ok (.istore_n 2, 1) := by decide +kernel
theorem dWk_settle_36 : decode cWk_settle 36 = .ok (.aload_n 0, 1) := by decide +kernel
theorem dWk_settle_37 : decode cWk_settle 37 = .ok (.getfield 19, 3) := by decide +kernel
theorem dWk_settle_40 : decode cWk_settle 40 = .ok (.iload_n 1, 1) := by decide +kernel
theorem dWk_settle_41 : decode cWk_settle 41 = .ok (.iconst (-1), 1) := by decide +kernel
theorem dWk_settle_42 : decode cWk_settle 42 = .ok (.iastore, 1) := by decide +kernel
theorem dWk_settle_43 : decode cWk_settle 43 = .ok (.aload_n 0, 1) := by decide +kernel
theorem dWk_settle_44 : decode cWk_settle 44 = .ok (.iload_n 1, 1) := by decide +kernel
theorem dWk_settle_45 : decode cWk_settle 45 = .ok (.iload_n 2, 1) := by decide +kernel
theorem dWk_settle_46 : decode cWk_settle 46 = .ok (.iconst 1, 1) := by decide +kernel
theorem dWk_settle_47 : decode cWk_settle 47 = .ok (.iconst 0, 1) := by decide +kernel
theorem dWk_settle_48 : decode cWk_settle 48 = .ok (.invokevirtual 30, 3) := by decide +kernel
theorem dWk_settle_51 : decode cWk_settle 51 = .ok (.aload_n 0, 1) := by decide +kernel
theorem dWk_settle_52 : decode cWk_settle 52 = .ok (.getfield 15, 3) := by decide +kernel
theorem dWk_settle_55 : decode cWk_settle 55 = .ok (.iload_n 1, 1) := by decide +kernel
theorem dWk_settle_56 : decode cWk_settle 56 = .ok (.if_icmp .ne 18, 3) := by decide +kernel
theorem dWk_settle_59 : decode cWk_settle 59 = .ok (.aload_n 0, 1) := by decide +kernel
theorem dWk_settle_60 : decode cWk_settle 60 = .ok (.iconst (-1), 1) := by decide +kernel
theorem dWk_settle_61 : decode cWk_settle 61 = .ok (.putfield 15, 3) := by decide +kernel
theorem dWk_settle_64 : decode cWk_settle 64 = .ok (.aload_n 0, 1) := by decide +kernel
theorem dWk_settle_65 : decode cWk_settle 65 = .ok (.dup, 1) := by decide +kernel
theorem dWk_settle_66 : decode cWk_settle 66 = .ok (.getfield 47, 3) := by decide +kernel
theorem dWk_settle_69 : decode cWk_settle 69 = .ok (.iconst 1, 1) := by decide +kernel
theorem dWk_settle_70 : decode cWk_settle 70 = .ok (.iadd, 1) := by decide +kernel
theorem dWk_settle_71 : decode cWk_settle 71 = .ok (.putfield 47, 3) := by decide +kernel
theorem dWk_settle_74 : decode cWk_settle 74 = .ok (.return_, 1) := by decide +kernel
theorem dWk_pause_0 : decode cWk_pause 0 = .ok (.aload_n 0, 1) := by decide +kernel
theorem dWk_pause_1 : decode cWk_pause 1 = .ok (.getfield 9, 3) := by decide +kernel
theorem dWk_pause_4 : decode cWk_pause 4 = .ok (.iload_n 1, 1) := by decide +kernel
theorem dWk_pause_5 : decode cWk_pause 5 = .ok (.iconst 0, 1) := by decide +kernel
theorem dWk_pause_6 : decode cWk_pause 6 = .ok (.bastore, 1) := by decide +kernel
theorem dWk_pause_7 : decode cWk_pause 7 = .ok (.aload_n 0, 1) := by decide +kernel
theorem dWk_pause_8 : decode cWk_pause 8 = .ok (.iload_n 1, 1) := by decide +kernel
theorem dWk_pause_9 : decode cWk_pause 9 = .ok (.invokevirtual 34, 3) := by decide +kernel
theorem dWk_pause_12 : decode cWk_pause 12 = .ok (.return_, 1) := by decide +kernel
theorem dWk_takeWork_0 : decode cWk_takeWork 0 = .ok (.aload_n 0, 1) := by decide +kernel
theorem dWk_takeWork_1 : decode cWk_takeWork 1 = .ok (.iload_n 2, 1) := by decide +kernel
theorem dWk_takeWork_2 : decode cWk_takeWork 2 = .ok (.invokevirtual 26, 3) := by decide +kernel
theorem dWk_takeWork_5 : decode cWk_takeWork 5 = .ok (.ifCond .eq 14, 3) := by decide +kernel
theorem dWk_takeWork_8 : decode cWk_takeWork 8 = .ok (.aload_n 0, 1) := by decide +kernel
theorem dWk_takeWork_9 : decode cWk_takeWork 9 = .ok (.iload_n 2, 1) := by decide +kernel
theorem dWk_takeWork_10 : decode cWk_takeWork 10 = .ok (.iload_n 1, 1) := by decide +kernel
theorem dWk_takeWork_11 : decode cWk_takeWork 11 = .ok (.iconst 1, 1) := by decide +kernel
theorem dWk_takeWork_12 : decode cWk_takeWork 12 = .ok (.iconst 0, 1) := by decide +kernel
theorem dWk_takeWork_13 : decode cWk_takeWork 13 = .ok (.invokevirtual 30, 3) := by decide +kernel
theorem dWk_takeWork_16 : decode cWk_takeWork 16 = .ok (.goto 10, 3) := by decide +kernel
theorem dWk_takeWork_19 : decode cWk_takeWork 19 = .ok (.aload_n 0, 1) := by decide +kernel
theorem dWk_takeWork_20 : decode cWk_takeWork 20 = .ok (.getfield 19, 3) := by decide +kernel
theorem dWk_takeWork_23 : decode cWk_takeWork 23 = .ok (.iload_n 2, 1) := by decide +kernel
theorem dWk_takeWork_24 : decode cWk_takeWork 24 = .ok (.iload_n 1, 1) := by decide +kernel
theorem dWk_takeWork_25 : decode cWk_takeWork 25 = .ok (.iastore, 1) := by decide +kernel
theorem dWk_takeWork_26 : decode cWk_takeWork 26 = .ok (.aload_n 0, 1) := by decide +kernel
theorem dWk_takeWork_27 : decode cWk_takeWork 27 = .ok (.getfield 9, 3) := by decide +kernel
theorem dWk_takeWork_30 : decode cWk_takeWork 30 = .ok (.iload_n 2, 1) := by decide +kernel
theorem dWk_takeWork_31 : decode cWk_takeWork 31 = .ok (.iconst 1, 1) := by decide +kernel
theorem dWk_takeWork_32 : decode cWk_takeWork 32 = .ok (.bastore, 1) := by decide +kernel
theorem dWk_takeWork_33 : decode cWk_takeWork 33 = .ok (.return_, 1) := by decide +kernel
theorem dWk_receive_0 : decode cWk_receive 0 = .ok (.aload_n 3, 1) := by decide +kernel
theorem dWk_receive_1 : decode cWk_receive 1 = .ok (.getfield 38, 3) := by decide +kernel
theorem dWk_receive_4 : decode cWk_receive 4 = .ok (.ifCond .ne 12, 3) := by decide +kernel
theorem dWk_receive_7 : decode cWk_receive 7 = .ok (.aload_n 0, 1) := by decide +kernel
theorem dWk_receive_8 : decode cWk_receive 8 = .ok (.iload_n 1, 1) := by decide +kernel
theorem dWk_receive_9 : decode cWk_receive 9 = .ok (.iload_n 2, 1) := by decide +kernel
theorem dWk_receive_10 : decode cWk_receive 10 = .ok (.invokevirtual 43, 3) := by decide +kernel
theorem dWk_receive_13 : decode cWk_receive 13 = .ok (.goto 18, 3) := by decide +kernel
theorem dWk_receive_16 : decode cWk_receive 16 = .ok (.aload_n 0, 1) := by decide +kernel
theorem dWk_receive_17 : decode cWk_receive 17 = .ok (.getfield 23, 3) := by decide +kernel
theorem dWk_receive_20 : decode cWk_receive 20 = .ok (.iload_n 2, 1) := by decide +kernel
theorem dWk_receive_21 : decode cWk_receive 21 = .ok (.dup2, 1) := by decide +kernel
theorem dWk_receive_22 : decode cWk_receive 22 = .ok (.iaload, 1) := by decide +kernel
theorem dWk_receive_23 : decode cWk_receive 23 = .ok (.iconst 1, 1) := by decide +kernel
theorem dWk_receive_24 : decode cWk_receive 24 = .ok (.isub, 1) := by decide +kernel
theorem dWk_receive_25 : decode cWk_receive 25 = .ok (.iastore, 1) := by decide +kernel
theorem dWk_receive_26 : decode cWk_receive 26 = .ok (.aload_n 0, 1) := by decide +kernel
theorem dWk_receive_27 : decode cWk_receive 27 = .ok (.iload_n 2, 1) := by decide +kernel
theorem dWk_receive_28 : decode cWk_receive 28 = .ok (.invokevirtual 34, 3) := by decide +kernel
theorem dWk_receive_31 : decode cWk_receive 31 = .ok (.return_, 1) := by decide +kernel
