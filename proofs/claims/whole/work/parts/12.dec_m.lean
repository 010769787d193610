theorem mw_20 : Cond.selects RX2 yX2_throwing yX2_throwing ∈ us_big := us_in 20 (by decide +kernel) rfl
theorem mw_21 : Cond.selects RX2 yX2_isUnit yX2_isUnit ∈ us_big := us_in 21 (by decide +kernel) rfl
theorem mw_22 : Cond.selects RX2 yX2_rank yX2_rank ∈ us_big := us_in 22 (by decide +kernel) rfl
theorem mw_23 : Cond.selects RX2 yX2_follow yX2_follow ∈ us_big := us_in 23 (by decide +kernel) rfl
theorem mw_24 : Cond.selects RX2 yX2_next yX2_next ∈ us_big := us_in 24 (by decide +kernel) rfl
theorem mw_25 : Cond.selects RX2 yX2_take yX2_take ∈ us_big := us_in 25 (by decide +kernel) rfl
theorem mw_26 : Cond.selects RX2 yX2_become yX2_become ∈ us_big := us_in 26 (by decide +kernel) rfl
theorem mw_27 : Cond.selects RX2 yX2_spend yX2_spend ∈ us_big := us_in 27 (by decide +kernel) rfl
theorem mw_28 : Cond.selects RX2 yX2_ahead yX2_ahead ∈ us_big := us_in 28 (by decide +kernel) rfl
theorem mw_29 : Cond.selects RX2 yX2_incidentNow yX2_incidentNow ∈ us_big := us_in 29 (by decide +kernel) rfl
theorem mw_30 : Cond.selects RX2 yX2_saidOf yX2_saidOf ∈ us_big := us_in 30 (by decide +kernel) rfl
theorem mw_34 : Cond.initialized RX2 ∈ us_big := us_in 34 (by decide +kernel) rfl
theorem mw_423 : Cond.fieldLink RX2 28 "UnitStatesModel" "thrown" "I" ∈ us_big := us_in 423 (by decide +kernel) rfl
theorem mw_424 : Cond.fieldLink RX2 32 "UnitStatesModel" "units" "I" ∈ us_big := us_in 424 (by decide +kernel) rfl
theorem mw_425 : Cond.fieldLink RX2 7 "UnitStatesModel" "home" "[I" ∈ us_big := us_in 425 (by decide +kernel) rfl
theorem mw_426 : Cond.fieldLink RX2 13 "UnitStatesModel" "least" "[I" ∈ us_big := us_in 426 (by decide +kernel) rfl
theorem mw_427 : Cond.fieldLink RX2 59 "UnitStatesModel" "messages" "I" ∈ us_big := us_in 427 (by decide +kernel) rfl
theorem mw_428 : Cond.fieldLink RX2 16 "UnitStatesModel" "unitOf" "[I" ∈ us_big := us_in 428 (by decide +kernel) rfl
theorem mw_429 : Cond.fieldLink RX2 19 "UnitStatesModel" "minute" "[I" ∈ us_big := us_in 429 (by decide +kernel) rfl
theorem mw_430 : Cond.fieldLink RX2 22 "UnitStatesModel" "kind" "[I" ∈ us_big := us_in 430 (by decide +kernel) rfl
theorem mw_431 : Cond.fieldLink RX2 25 "UnitStatesModel" "value" "[I" ∈ us_big := us_in 431 (by decide +kernel) rfl
theorem mw_432 : Cond.fieldLink RX2 49 "UnitStatesModel" "strangers" "I" ∈ us_big := us_in 432 (by decide +kernel) rfl
theorem mw_433 : Cond.fieldLink RX2 65 "UnitStatesModel" "state" "I" ∈ us_big := us_in 433 (by decide +kernel) rfl
theorem mw_434 : Cond.fieldLink RX2 62 "UnitStatesModel" "since" "I" ∈ us_big := us_in 434 (by decide +kernel) rfl
theorem mw_435 : Cond.fieldLink RX2 75 "UnitStatesModel" "station" "I" ∈ us_big := us_in 435 (by decide +kernel) rfl
theorem mw_436 : Cond.fieldLink RX2 78 "UnitStatesModel" "incident" "I" ∈ us_big := us_in 436 (by decide +kernel) rfl
theorem mw_437 : Cond.fieldLink RX2 93 "UnitStatesModel" "crew" "I" ∈ us_big := us_in 437 (by decide +kernel) rfl
theorem mw_438 : Cond.fieldLink RX2 108 "UnitStatesModel" "things" "I" ∈ us_big := us_in 438 (by decide +kernel) rfl
theorem mw_439 : Cond.fieldLink RX2 99 "UnitStatesModel" "link" "I" ∈ us_big := us_in 439 (by decide +kernel) rfl
theorem mw_440 : Cond.fieldLink RX2 68 "UnitStatesModel" "driven" "I" ∈ us_big := us_in 440 (by decide +kernel) rfl
theorem mw_441 : Cond.fieldLink RX2 102 "UnitStatesModel" "place" "I" ∈ us_big := us_in 441 (by decide +kernel) rfl
theorem mw_442 : Cond.fieldLink RX2 105 "UnitStatesModel" "placed" "I" ∈ us_big := us_in 442 (by decide +kernel) rfl
theorem mw_443 : Cond.fieldLink RX2 84 "UnitStatesModel" "expected" "I" ∈ us_big := us_in 443 (by decide +kernel) rfl
theorem mw_444 : Cond.fieldLink RX2 81 "UnitStatesModel" "arrived" "I" ∈ us_big := us_in 444 (by decide +kernel) rfl
theorem mw_445 : Cond.fieldLink RX2 87 "UnitStatesModel" "said" "I" ∈ us_big := us_in 445 (by decide +kernel) rfl
theorem mw_501 : Cond.methodLink RX2 35 yX2_in ∈ us_big := us_in 501 (by decide +kernel) rfl
theorem mw_502 : Cond.static yX2_in ∈ us_big := us_in 502 (by decide +kernel) rfl
set_option maxRecDepth 100000 in
theorem mw_503 : Cond.code yX2_in cX2_in 3 (some .boolean) ∈ us_big := us_in 503 rfl rfl
theorem mw_504 : Cond.methodLink RX2 40 yX2_throwing ∈ us_big := us_in 504 (by decide +kernel) rfl
theorem mw_506 : Cond.instanceMethod yX2_throwing ∈ us_big := us_in 506 (by decide +kernel) rfl
set_option maxRecDepth 100000 in
theorem mw_507 : Cond.code yX2_throwing cX2_throwing 4 (some .boolean) ∈ us_big := us_in 507 rfl rfl
theorem mw_512 : Cond.methodLink RX2 45 yX2_isUnit ∈ us_big := us_in 512 (by decide +kernel) rfl
theorem mw_514 : Cond.instanceMethod yX2_isUnit ∈ us_big := us_in 514 (by decide +kernel) rfl
set_option maxRecDepth 100000 in
theorem mw_515 : Cond.code yX2_isUnit cX2_isUnit 2 (some .boolean) ∈ us_big := us_in 515 rfl rfl
theorem mw_516 : Cond.methodLink RX2 52 yX2_isMinute ∈ us_big := us_in 516 (by decide +kernel) rfl
theorem mw_517 : Cond.static yX2_isMinute ∈ us_big := us_in 517 (by decide +kernel) rfl
set_option maxRecDepth 100000 in
theorem mw_518 : Cond.code yX2_isMinute cX2_isMinute 1 (some .boolean) ∈ us_big := us_in 518 rfl rfl
theorem mw_519 : Cond.constant RX2 39 99999 ∈ us_big := us_in 519 (by decide +kernel) rfl
theorem mw_520 : Cond.methodLink RX2 55 yX2_isValue ∈ us_big := us_in 520 (by decide +kernel) rfl
theorem mw_521 : Cond.static yX2_isValue ∈ us_big := us_in 521 (by decide +kernel) rfl
set_option maxRecDepth 100000 in
theorem mw_522 : Cond.code yX2_isValue cX2_isValue 2 (some .boolean) ∈ us_big := us_in 522 rfl rfl
theorem mw_523 : Cond.constant RX2 44 999999 ∈ us_big := us_in 523 (by decide +kernel) rfl
theorem mw_528 : Cond.methodLink RX2 126 yX2_rank ∈ us_big := us_in 528 (by decide +kernel) rfl
theorem mw_530 : Cond.instanceMethod yX2_rank ∈ us_big := us_in 530 (by decide +kernel) rfl
set_option maxRecDepth 100000 in
theorem mw_531 : Cond.code yX2_rank cX2_rank 3 (some .int) ∈ us_big := us_in 531 rfl rfl
theorem mw_532 : Cond.methodLink RX2 119 yX2_follow ∈ us_big := us_in 532 (by decide +kernel) rfl
theorem mw_534 : Cond.instanceMethod yX2_follow ∈ us_big := us_in 534 (by decide +kernel) rfl
set_option maxRecDepth 100000 in
theorem mw_535 : Cond.code yX2_follow cX2_follow 6 none ∈ us_big := us_in 535 rfl rfl
theorem mw_536 : Cond.methodLink RX2 111 yX2_next ∈ us_big := us_in 536 (by decide +kernel) rfl
theorem mw_538 : Cond.instanceMethod yX2_next ∈ us_big := us_in 538 (by decide +kernel) rfl
set_option maxRecDepth 100000 in
theorem mw_539 : Cond.code yX2_next cX2_next 8 (some .int) ∈ us_big := us_in 539 rfl rfl
theorem mw_540 : Cond.methodLink RX2 115 yX2_take ∈ us_big := us_in 540 (by decide +kernel) rfl
theorem mw_542 : Cond.instanceMethod yX2_take ∈ us_big := us_in 542 (by decide +kernel) rfl
set_option maxRecDepth 100000 in
theorem mw_543 : Cond.code yX2_take cX2_take 4 none ∈ us_big := us_in 543 rfl rfl
theorem mw_544 : Cond.methodLink RX2 90 yX2_follows ∈ us_big := us_in 544 (by decide +kernel) rfl
theorem mw_545 : Cond.static yX2_follows ∈ us_big := us_in 545 (by decide +kernel) rfl
set_option maxRecDepth 100000 in
theorem mw_546 : Cond.code yX2_follows cX2_follows 2 (some .boolean) ∈ us_big := us_in 546 rfl rfl
theorem mw_547 : Cond.methodLink RX2 96 yX2_become ∈ us_big := us_in 547 (by decide +kernel) rfl
theorem mw_549 : Cond.instanceMethod yX2_become ∈ us_big := us_in 549 (by decide +kernel) rfl
set_option maxRecDepth 100000 in
theorem mw_550 : Cond.code yX2_become cX2_become 2 none ∈ us_big := us_in 550 rfl rfl
theorem mw_551 : Cond.methodLink RX2 71 yX2_spend ∈ us_big := us_in 551 (by decide +kernel) rfl
theorem mw_553 : Cond.instanceMethod yX2_spend ∈ us_big := us_in 553 (by decide +kernel) rfl
set_option maxRecDepth 100000 in
theorem mw_554 : Cond.code yX2_spend cX2_spend 3 none ∈ us_big := us_in 554 rfl rfl
theorem mw_555 : Cond.methodLink RX2 123 yX2_ahead ∈ us_big := us_in 555 (by decide +kernel) rfl
theorem mw_557 : Cond.instanceMethod yX2_ahead ∈ us_big := us_in 557 (by decide +kernel) rfl
set_option maxRecDepth 100000 in
theorem mw_558 : Cond.code yX2_ahead cX2_ahead 8 (some .int) ∈ us_big := us_in 558 rfl rfl
theorem mw_559 : Cond.methodLink RX2 130 yX2_incidentNow ∈ us_big := us_in 559 (by decide +kernel) rfl
theorem mw_561 : Cond.instanceMethod yX2_incidentNow ∈ us_big := us_in 561 (by decide +kernel) rfl
set_option maxRecDepth 100000 in
theorem mw_562 : Cond.code yX2_incidentNow cX2_incidentNow 1 (some .int) ∈ us_big := us_in 562 rfl rfl
theorem mw_579 : Cond.methodLink RX2 134 yX2_saidOf ∈ us_big := us_in 579 (by decide +kernel) rfl
theorem mw_581 : Cond.instanceMethod yX2_saidOf ∈ us_big := us_in 581 (by decide +kernel) rfl
set_option maxRecDepth 100000 in
theorem mw_582 : Cond.code yX2_saidOf cX2_saidOf 2 (some .int) ∈ us_big := us_in 582 rfl rfl
theorem dX2_init_0 : decode cX2_init 0 = .ok (.aload_n 0, 1) := by decide +kernel
theorem dX2_init_1 : decode cX2_init 1 = .ok (.invokespecial 1, 3) := by decide +kernel
theorem dX2_init_4 : decode cX2_init 4 = .ok (.aload_n 0, 1) := by decide +kernel
theorem dX2_init_5 : decode cX2_init 5 = .ok (.bipush 30, 2) := by decide +kernel
theorem dX2_init_7 : decode cX2_init 7 = .ok (.newarray .int, 2) := by decide +kernel
theorem dX2_init_9 : decode cX2_init 9 = .ok (.putfield 7, 3) := by decide +kernel
theorem dX2_init_12 : decode cX2_init 12 = .ok (.aload_n 0, 1) := by decide +kernel
theorem dX2_init_13 : decode cX2_init 13 = .ok (.bipush 30, 2) := by decide +kernel
theorem dX2_init_15 : decode cX2_init 15 = .ok (.newarray .int, 2) := by decide +kernel
theorem dX2_init_17 : decode cX2_init 17 = .ok (.putfield 13, 3) := by decide +kernel
theorem dX2_init_20 : decode cX2_init 20 = .ok (.aload_n 0, 1) := by decide +kernel
theorem dX2_init_21 : decode cX2_init 21 = .ok (.sipush 200, 3) := by decide +kernel
theorem dX2_init_24 : decode cX2_init 24 = .ok (.newarray .int, 2) := by decide +kernel
theorem dX2_init_26 : decode cX2_init 26 = .ok (.putfield 16, 3) := by decide +kernel
theorem dX2_init_29 : decode cX2_init 29 = .ok (.aload_n 0, 1) := by decide +kernel
theorem dX2_init_30 : decode cX2_init 30 = .ok (.sipush 200, 3) := by decide +kernel
theorem dX2_init_33 : decode cX2_init 33 = .ok (.newarray .int, 2) := by decide +kernel
theorem dX2_init_35 : decode cX2_init 35 = .ok (.putfield 19, 3) := by decide +kernel
theorem dX2_init_38 : decode cX2_init 38 = .ok (.aload_n 0, 1) := by decide +kernel
theorem dX2_init_39 : decode cX2_init 39 = .ok (.sipush 200, 3) := by decide +kernel
theorem dX2_init_42 : decode cX2_init 42 = .ok (.newarray .int, 2) := by decide +kernel
theorem dX2_init_44 : decode cX2_init 44 = .ok (.putfield 22, 3) := by decide +kernel
theorem dX2_init_47 : decode cX2_init 47 = .ok (.aload_n 0, 1) := by decide +kernel
theorem dX2_init_48 : decode cX2_init 48 = .ok (.sipush 200, 3) := by decide +kernel
theorem dX2_init_51 : decode cX2_init 51 = .ok (.newarray .int, 2) := by decide +kernel
theorem dX2_init_53 : decode cX2_init 53 = .ok (.putfield 25, 3) := by decide +kernel
theorem dX2_init_56 : decode cX2_init 56 = .ok (.return_, 1) := by decide +kernel
theorem dX2_thrown_0 : decode cX2_thrown 0 = .ok (.aload_n 0, 1) := by decide +kernel
theorem dX2_thrown_1 : decode cX2_thrown 1 = .ok (.getfield 28, 3) := by decide +kernel
theorem dX2_thrown_4 : decode cX2_thrown 4 = .ok (.ireturn, 1) := by decide +kernel
theorem dX2_unit_0 : decode cX2_unit 0 = .ok (.aload_n 0, 1) := by decide +kernel
theorem dX2_unit_1 : decode cX2_unit 1 = .ok (.iload_n 1, 1) := by decide +kernel
theorem dX2_unit_2 : decode cX2_unit 2 = .ok (.iconst 0, 1) := by decide +kernel
theorem dX2_unit_3 : decode cX2_unit 3 = .ok (.bipush 9, 2) := by decide +kernel
theorem dX2_unit_5 : decode cX2_unit 5 = .ok (.invokestatic 35, 3) := by decide +kernel
theorem dX2_unit_8 : decode cX2_unit 8 = .ok (.ifCond .eq 13, 3) := by decide +kernel
theorem dX2_unit_11 : decode cX2_unit 11 = .ok (.iload_n 2, 1) := by decide +kernel
theorem dX2_unit_12 : decode cX2_unit 12 = .ok (.iconst 0, 1) := by decide +kernel
theorem dX2_unit_13 : decode cX2_unit 13 = .ok (.bipush 9, 2) := by decide +kernel
theorem dX2_unit_15 : decode cX2_unit 15 = .ok (.invokestatic 35, 3) := by decide +kernel
theorem dX2_unit_18 : decode cX2_unit 18 = .ok (.ifCond .ne 7, 3) := by decide +kernel
theorem dX2_unit_21 : decode cX2_unit 21 = .ok (.iconst 1, 1) := by decide +kernel
theorem dX2_unit_22 : decode cX2_unit 22 = .ok (.goto 4, 3) := by decide +kernel
theorem dX2_unit_25 : decode cX2_unit 25 = .ok (.iconst 0, 1) := by decide +kernel
theorem dX2_unit_26 : decode cX2_unit 26 = .ok (.aload_n 0, 1) := by decide +kernel
theorem dX2_unit_27 : decode cX2_unit 27 = .ok (.getfield 32, 3) := by decide +kernel
theorem dX2_unit_30 : decode cX2_unit 30 = .ok (.bipush 30, 2) := by decide +kernel
theorem dX2_unit_32 : decode cX2_unit 32 = .ok (.if_icmp .ne 7, 3) := by decide +kernel
theorem dX2_unit_35 : decode cX2_unit 35 = .ok (.iconst 1, 1) := by decide +kernel
theorem dX2_unit_36 : decode cX2_unit 36 = .ok (.goto 4, 3) := by decide +kernel
theorem dX2_unit_39 : decode cX2_unit 39 = .ok (.iconst 0, 1) := by decide +kernel
theorem dX2_unit_40 : decode cX2_unit 40 = .ok (.iconst 0, 1) := by decide +kernel
theorem dX2_unit_41 : decode cX2_unit 41 = .ok (.invokevirtual 40, 3) := by decide +kernel
theorem dX2_unit_44 : decode cX2_unit 44 = .ok (.ifCond .eq 5, 3) := by decide +kernel
theorem dX2_unit_47 : decode cX2_unit 47 = .ok (.iconst 0, 1) := by decide +kernel
theorem dX2_unit_48 : decode cX2_unit 48 = .ok (.ireturn, 1) := by decide +kernel
theorem dX2_unit_49 : decode cX2_unit 49 = .ok (.aload_n 0, 1) := by decide +kernel
theorem dX2_unit_50 : decode cX2_unit 50 = .ok (.getfield 7, 3) := by decide +kernel
theorem dX2_unit_53 : decode cX2_unit 53 = .ok (.aload_n 0, 1) := by decide +kernel
theorem dX2_unit_54 : decode cX2_unit 54 = .ok (.getfield 32, 3) := by decide +kernel
theorem dX2_unit_57 : decode cX2_unit 57 = .ok (.iload_n 1, 1) := by decide +kernel
theorem dX2_unit_58 : decode cX2_unit 58 = .ok (.iastore, 1) := by decide +kernel
theorem dX2_unit_59 : decode cX2_unit 59 = .ok (.aload_n 0, 1) := by decide +kernel
theorem dX2_unit_60 : decode cX2_unit 60 = .ok (.getfield 13, 3) := by decide +kernel
theorem dX2_unit_63 : decode cX2_unit 63 = .ok (.aload_n 0, 1) := by decide +kernel
theorem dX2_unit_64 : decode cX2_unit 64 = .ok (.getfield 32, 3) := by decide +kernel
theorem dX2_unit_67 : decode cX2_unit 67 = .ok (.iload_n 2, 1) := by decide +kernel
theorem dX2_unit_68 : decode cX2_unit 68 = .ok (.iastore, 1) := by decide +kernel
theorem dX2_unit_69 : decode cX2_unit 69 = .ok (.aload_n 0, 1) := by decide +kernel
theorem dX2_unit_70 : decode cX2_unit 70 = .ok (.dup, 1) := by decide +kernel
theorem dX2_unit_71 : decode cX2_unit 71 = .ok (.getfield 32, 3) := by decide +kernel
theorem dX2_unit_74 : decode cX2_unit 74 = .ok (.iconst 1, 1) := by decide +kernel
theorem dX2_unit_75 : decode cX2_unit 75 = .ok (.iadd, 1) := by decide +kernel
theorem dX2_unit_76 : decode cX2_unit 76 = .ok (.putfield 32, 3) := by decide +kernel
theorem dX2_unit_79 : decode cX2_unit 79 = .ok (.aload_n 0, 1) := by decide +kernel
theorem dX2_unit_80 : decode cX2_unit 80 = .ok (.getfield 32, 3) := by decide +kernel
theorem dX2_unit_83 : decode cX2_unit 83 = .ok (.iconst 1, 1) := by decide +kernel
theorem dX2_unit_84 : decode cX2_unit 84 = .ok (.isub, 1) := by decide +kernel
theorem dX2_unit_85 : decode cX2_unit 85 = .ok (.ireturn, 1) := by decide +kernel
theorem dX2_in_0 : decode cX2_in 0 = .ok (.iload_n 0, 1) := by decide +kernel
theorem dX2_in_1 : decode cX2_in 1 = .ok (.iload_n 1, 1) := by decide +kernel
theorem dX2_in_2 : decode cX2_in 2 = .ok (.if_icmp .lt 12, 3) := by decide +kernel
theorem dX2_in_5 : decode cX2_in 5 = .ok (.iload_n 0, 1) := by decide +kernel
theorem dX2_in_6 : decode cX2_in 6 = .ok (.iload_n 2, 1) := by decide +kernel
theorem dX2_in_7 : decode cX2_in 7 = .ok (.if_icmp .gt 7, 3) := by decide +kernel
theorem dX2_in_10 : decode cX2_in 10 = .ok (.iconst 1, 1) := by decide +kernel
theorem dX2_in_11 : decode cX2_in 11 = .ok (.goto 4, 3) := by decide +kernel
theorem dX2_in_14 : decode cX2_in 14 = .ok (.iconst 0, 1) := by decide +kernel
theorem dX2_in_15 : decode cX2_in 15 = .ok (.ireturn, 1) := by decide +kernel
theorem dX2_throwing_0 : decode cX2_throwing 0 = .ok (.aload_n 0, 1) := by decide +kernel
theorem dX2_throwing_1 : decode cX2_throwing 1 = .ok (.iload_n 1, 1) := by decide +kernel
theorem dX2_throwing_2 : decode cX2_throwing 2 = .ok (.ifCond .eq 7, 3) := by decide +kernel
theorem dX2_throwing_5 : decode cX2_throwing 5 = .ok (.iconst 1, 1) := by decide +kernel
theorem dX2_throwing_6 : decode cX2_throwing 6 = .ok (.goto 20, 3) := by decide +kernel
theorem dX2_throwing_9 : decode cX2_throwing 9 = .ok (.iload_n 2, 1) := by decide +kernel
theorem dX2_throwing_10 : decode cX2_throwing 10 = .ok (.ifCond .eq 7, 3) := by decide +kernel
theorem dX2_throwing_13 : decode cX2_throwing 13 = .ok (.iconst 2, 1) := by decide +kernel
theorem dX2_throwing_14 : decode cX2_throwing 14 = .ok (.goto 12, 3) := by decide +kernel
theorem dX2_throwing_17 : decode cX2_throwing 17 = .ok (.iload_n 3, 1) := by decide +kernel
theorem dX2_throwing_18 : decode cX2_throwing 18 = .ok (.ifCond .eq 7, 3) := by decide +kernel
theorem dX2_throwing_21 : decode cX2_throwing 21 = .ok (.iconst 3, 1) := by decide +kernel
theorem dX2_throwing_22 : decode cX2_throwing 22 = .ok (.goto 4, 3) := by decide +kernel
theorem dX2_throwing_25 : decode cX2_throwing 25 = .ok (.iconst 0, 1) := by decide +kernel
theorem dX2_throwing_26 : decode cX2_throwing 26 = .ok (.putfield 28, 3) := by decide +kernel
theorem dX2_throwing_29 : decode cX2_throwing 29 = .ok (.aload_n 0, 1) := by decide +kernel
theorem dX2_throwing_30 : decode cX2_throwing 30 = .ok (.getfield 28, 3) := by decide +kernel
theorem dX2_throwing_33 : decode cX2_throwing 33 = .ok (.ifCond .le 7, 3) := by decide +kernel
theorem dX2_throwing_36 : decode cX2_throwing 36 = .ok (.iconst 1, 1) := by decide +kernel
theorem dX2_throwing_37 : decode cX2_throwing 37 = .ok (.goto 4, 3) := by decide +kernel
theorem dX2_throwing_40 : decode cX2_throwing 40 = .ok (.iconst 0, 1) := by decide +kernel
theorem dX2_throwing_41 : decode cX2_throwing 41 = .ok (.ireturn, 1) := by decide +kernel
theorem dX2_message_0 : decode cX2_message 0 = .ok (.aload_n 0, 1) := by decide +kernel
theorem dX2_message_1 : decode cX2_message 1 = .ok (.iload_n 1, 1) := by decide +kernel
theorem dX2_message_2 : decode cX2_message 2 = .ok (.invokevirtual 45, 3) := by decide +kernel
theorem dX2_message_5 : decode cX2_message 5 = .ok (.ifCond .ne 7, 3) := by decide +kernel
theorem dX2_message_8 : decode cX2_message 8 = .ok (.iconst 1, 1) := by decide +kernel
theorem dX2_message_9 : decode cX2_message 9 = .ok (.goto 4, 3) := by decide +kernel
theorem dX2_message_12 : decode cX2_message 12 = .ok (.iconst 0, 1) := by decide +kernel
theorem dX2_message_13 : decode cX2_message 13 = .ok (.istore 5, 2) := by decide +kernel
theorem dX2_message_15 : decode cX2_message 15 = .ok (.aload_n 0, 1) := by decide +kernel
theorem dX2_message_16 : decode cX2_message 16 = .ok (.dup, 1) := by decide +kernel
theorem dX2_message_17 : decode cX2_message 17 = .ok (.getfield 49, 3) := by decide +kernel
theorem dX2_message_20 : decode cX2_message 20 = .ok (.iload 5, 2) := by decide +kernel
theorem dX2_message_22 : decode cX2_message 22 = .ok (.ifCond .eq 7, 3) := by decide +kernel
theorem dX2_message_25 : decode cX2_message 25 = .ok (.iconst 1, 1) := by decide +kernel
theorem dX2_message_26 : decode cX2_message 26 = .ok (.goto 4, 3) := by decide +kernel
theorem dX2_message_29 : decode cX2_message 29 = .ok (.iconst 0, 1) := by decide +kernel
theorem dX2_message_30 : decode cX2_message 30 = .ok (.iadd, 1) := by decide +kernel
theorem dX2_message_31 : decode cX2_message 31 = .ok (.putfield 49, 3) := by decide +kernel
theorem dX2_message_34 : decode cX2_message 34 = .ok (.iload 5, 2) := by decide +kernel
theorem dX2_message_36 : decode cX2_message 36 = .ok (.ifCond .ne 13, 3) := by decide +kernel
theorem dX2_message_39 : decode cX2_message 39 = .ok (.iload_n 3, 1) := by decide +kernel
theorem dX2_message_40 : decode cX2_message 40 = .ok (.iconst 0, 1) := by decide +kernel
theorem dX2_message_41 : decode cX2_message 41 = .ok (.bipush 15, 2) := by decide +kernel
theorem dX2_message_43 : decode cX2_message 43 = .ok (.invokestatic 35, 3) := by decide +kernel
theorem dX2_message_46 : decode cX2_message 46 = .ok (.ifCond .ne 7, 3) := by decide +kernel
theorem dX2_message_49 : decode cX2_message 49 = .ok (.iconst 1, 1) := by decide +kernel
theorem dX2_message_50 : decode cX2_message 50 = .ok (.goto 4, 3) := by decide +kernel
theorem dX2_message_53 : decode cX2_message 53 = .ok (.iconst 0, 1) := by decide +kernel
theorem dX2_message_54 : decode cX2_message 54 = .ok (.istore 5, 2) := by decide +kernel
theorem dX2_message_56 : decode cX2_message 56 = .ok (.aload_n 0, 1) := by decide +kernel
theorem dX2_message_57 : decode cX2_message 57 = .ok (.iload 5, 2) := by decide +kernel
theorem dX2_message_59 : decode cX2_message 59 = .ok (.iload_n 2, 1) := by decide +kernel
theorem dX2_message_60 : decode cX2_message 60 = .ok (.invokestatic 52, 3) := by decide +kernel
theorem dX2_message_63 : decode cX2_message 63 = .ok (.ifCond .eq 12, 3) := by decide +kernel
theorem dX2_message_66 : decode cX2_message 66 = .ok (.iload_n 3, 1) := by decide +kernel
theorem dX2_message_67 : decode cX2_message 67 = .ok (.iload 4, 2) := by decide +kernel
theorem dX2_message_69 : decode cX2_message 69 = .ok (.invokestatic 55, 3) := by decide +kernel
theorem dX2_message_72 : decode cX2_message 72 = .ok (.ifCond .ne 7, 3) := by decide +kernel
theorem dX2_message_75 : decode cX2_message 75 = .ok (.iconst 1, 1) := by decide +kernel
theorem dX2_message_76 : decode cX2_message 76 = .ok (.goto 4, 3) := by decide +kernel
theorem dX2_message_79 : decode cX2_message 79 = .ok (.iconst 0, 1) := by decide +kernel
theorem dX2_message_80 : decode cX2_message 80 = .ok (.aload_n 0, 1) := by decide +kernel
theorem dX2_message_81 : decode cX2_message 81 = .ok (.getfield 59, 3) := by decide +kernel
theorem dX2_message_84 : decode cX2_message 84 = .ok (.sipush 200, 3) := by decide +kernel
theorem dX2_message_87 : decode cX2_message 87 = .ok (.if_icmp .ne 7, 3) := by decide +kernel
theorem dX2_message_90 : decode cX2_message 90 = .ok (.iconst 1, 1) := by decide +kernel
theorem dX2_message_91 : decode cX2_message 91 = .ok (.goto 4, 3) := by decide +kernel
theorem dX2_message_94 : decode cX2_message 94 = .ok (.iconst 0, 1) := by decide +kernel
theorem dX2_message_95 : decode cX2_message 95 = .ok (.invokevirtual 40, 3) := by decide +kernel
theorem dX2_message_98 : decode cX2_message 98 = .ok (.ifCond .eq 5, 3) := by decide +kernel
theorem dX2_message_101 : decode cX2_message 101 = .ok (.iconst 0, 1) := by decide +kernel
theorem dX2_message_102 : decode cX2_message 102 = .ok (.ireturn, 1) := by decide +kernel
theorem dX2_message_103 : decode cX2_message 103 = .ok (.aload_n 0, 1) := by decide +kernel
theorem dX2_message_104 : decode cX2_message 104 = .ok (.getfield 16, 3) := by decide +kernel
theorem dX2_message_107 : decode cX2_message 107 = .ok (.aload_n 0, 1) := by decide +kernel
theorem dX2_message_108 : decode cX2_message 108 = .ok (.getfield 59, 3) := by decide +kernel
theorem dX2_message_111 : decode cX2_message 111 = .ok (.iload_n 1, 1) := by decide +kernel
theorem dX2_message_112 : decode cX2_message 112 = .ok (.iastore, 1) := by decide +kernel
theorem dX2_message_113 : decode cX2_message 113 = .ok (.aload_n 0, 1) := by decide +kernel
theorem dX2_message_114 : decode cX2_message 114 = .ok (.getfield 19, 3) := by decide +kernel
theorem dX2_message_117 : decode cX2_message 117 = .ok (.aload_n 0, 1) := by decide +kernel
theorem dX2_message_118 : decode cX2_message 118 = .ok (.getfield 59, 3) := by decide +kernel
theorem dX2_message_121 : decode cX2_message 121 = .ok (.iload_n 2, 1) := by decide +kernel
theorem dX2_message_122 : decode cX2_message 122 = .ok (.iastore, 1) := by decide +kernel
theorem dX2_message_123 : decode cX2_message 123 = .ok (.aload_n 0, 1) := by decide +kernel
theorem dX2_message_124 : decode cX2_message 124 = .ok (.getfield 22, 3) := by decide +kernel
theorem dX2_message_127 : decode cX2_message 127 = .ok (.aload_n 0, 1) := by decide +kernel
theorem dX2_message_128 : decode cX2_message 128 = .ok (.getfield 59, 3) := by decide +kernel
theorem dX2_message_131 : decode cX2_message 131 = .ok (.iload_n 3, 1) := by decide +kernel
theorem dX2_message_132 : decode cX2_message 132 = .ok (.iastore, 1) := by decide +kernel
theorem dX2_message_133 : decode cX2_message 133 = .ok (.aload_n 0, 1) := by decide +kernel
theorem dX2_message_134 : decode cX2_message 134 = .ok (.getfield 25, 3) := by decide +kernel
theorem dX2_message_137 : decode cX2_message 137 = .ok (.aload_n 0, 1) := by decide +kernel
theorem dX2_message_138 : decode cX2_message 138 = .ok (.getfield 59, 3) := by decide +kernel
theorem dX2_message_141 : decode cX2_message 141 = .ok (.iload 4, 2) := by decide +kernel
theorem dX2_message_143 : decode cX2_message 143 = .ok (.iastore, 1) := by decide +kernel
theorem dX2_message_144 : decode cX2_message 144 = .ok (.aload_n 0, 1) := by decide +kernel
theorem dX2_message_145 : decode cX2_message 145 = .ok (.dup, 1) := by decide +kernel
theorem dX2_message_146 : decode cX2_message 146 = .ok (.getfield 59, 3) := by decide +kernel
theorem dX2_message_149 : decode cX2_message 149 = .ok (.iconst 1, 1) := by decide +kernel
theorem dX2_message_150 : decode cX2_message 150 = .ok (.iadd, 1) := by decide +kernel
theorem dX2_message_151 : decode cX2_message 151 = .ok (.putfield 59, 3) := by decide +kernel
theorem dX2_message_154 : decode cX2_message 154 = .ok (.aload_n 0, 1) := by decide +kernel
theorem dX2_message_155 : decode cX2_message 155 = .ok (.getfield 59, 3) := by decide +kernel
theorem dX2_message_158 : decode cX2_message 158 = .ok (.iconst 1, 1) := by decide +kernel
theorem dX2_message_159 : decode cX2_message 159 = .ok (.isub, 1) := by decide +kernel
theorem dX2_message_160 : decode cX2_message 160 = .ok (.ireturn, 1) := by decide +kernel
theorem dX2_isUnit_0 : decode cX2_isUnit 0 = .ok (.iload_n 1, 1) := by decide +kernel
theorem dX2_isUnit_1 : decode cX2_isUnit 1 = .ok (.iconst 0, 1) := by decide +kernel
theorem dX2_isUnit_2 : decode cX2_isUnit 2 = .ok (.aload_n 0, 1) := by decide +kernel
theorem dX2_isUnit_3 : decode cX2_isUnit 3 = .ok (.getfield 32, 3) := by decide +kernel
theorem dX2_isUnit_6 : decode cX2_isUnit 6 = .ok (.iconst 1, 1) := by decide +kernel
theorem dX2_isUnit_7 : decode cX2_isUnit 7 = .ok (.isub, 1) := by decide +kernel
theorem dX2_isUnit_8 : decode cX2_isUnit 8 = .ok (.invokestatic 35, 3) := by decide +kernel
theorem dX2_isUnit_11 : decode cX2_isUnit 11 = .ok (.ireturn, 1) := by decide +kernel
theorem dX2_isMinute_0 : decode cX2_isMinute 0 = .ok (.iload_n 0, 1) := by decide +kernel
theorem dX2_isMinute_1 : decode cX2_isMinute 1 = .ok (.iconst 0, 1) := by decide +kernel
theorem dX2_isMinute_2 : decode cX2_isMinute 2 = .ok (.ldc 39, 2) := by decide +kernel
theorem dX2_isMinute_4 : decode cX2_isMinute 4 = .ok (.invokestatic 35, 3) := by decide +kernel
theorem dX2_isMinute_7 : decode cX2_isMinute 7 = .ok (.ireturn, 1) := by decide +kernel
theorem dX2_isValue_0 : decode cX2_isValue 0 = .ok (.iload_n 0, 1) := by decide +kernel
theorem dX2_isValue_1 : decode cX2_isValue 1 = .ok (.tableswitch 128 0 15 #[79, 87, 128, 128, 128, 128, 128, 128, 128, 128, 128, 95, 79, 103, 112, 119], 79) := by decide +kernel
theorem dX2_isValue_80 : decode cX2_isValue 80 = .ok (.iload_n 1, 1) := by decide +kernel
theorem dX2_isValue_81 : decode cX2_isValue 81 = .ok (.iconst 0, 1) := by decide +kernel
theorem dX2_isValue_82 : decode cX2_isValue 82 = .ok (.bipush 9, 2) := by decide +kernel
theorem dX2_isValue_84 : decode cX2_isValue 84 = .ok (.invokestatic 35, 3) := by decide +kernel
theorem dX2_isValue_87 : decode cX2_isValue 87 = .ok (.ireturn, 1) := by decide +kernel
theorem dX2_isValue_88 : decode cX2_isValue 88 = .ok (.iload_n 1, 1) := by decide +kernel
theorem dX2_isValue_89 : decode cX2_isValue 89 = .ok (.iconst 0, 1) := by decide +kernel
theorem dX2_isValue_90 : decode cX2_isValue 90 = .ok (.bipush 19, 2) := by decide +kernel
theorem dX2_isValue_92 : decode cX2_isValue 92 = .ok (.invokestatic 35, 3) := by decide +kernel
theorem dX2_isValue_95 : decode cX2_isValue 95 = .ok (.ireturn, 1) := by decide +kernel
theorem dX2_isValue_96 : decode cX2_isValue 96 = .ok (.iload_n 1, 1) := by decide +kernel
theorem dX2_isValue_97 : decode cX2_isValue 97 = .ok (.iconst 0, 1) := by decide +kernel
theorem dX2_isValue_98 : decode cX2_isValue 98 = .ok (.ldc 44, 2) := by decide +kernel
theorem dX2_isValue_100 : decode cX2_isValue 100 = .ok (.invokestatic 35, 3) := by decide +kernel
theorem dX2_isValue_103 : decode cX2_isValue 103 = .ok (.ireturn, 1) := by decide +kernel
theorem dX2_isValue_104 : decode cX2_isValue 104 = .ok (.iload_n 1, 1) := by decide +kernel
theorem dX2_isValue_105 : decode cX2_isValue 105 = .ok (.iconst 0, 1) := by decide +kernel
theorem dX2_isValue_106 : decode cX2_isValue 106 = .ok (.sipush 255, 3) := by decide +kernel
theorem dX2_isValue_109 : decode cX2_isValue 109 = .ok (.invokestatic 35, 3) := by decide +kernel
theorem dX2_isValue_112 : decode cX2_isValue 112 = .ok (.ireturn, 1) := by decide +kernel
theorem dX2_isValue_113 : decode cX2_isValue 113 = .ok (.iload_n 1, 1) := by decide +kernel
theorem dX2_isValue_114 : decode cX2_isValue 114 = .ok (.iconst 0, 1) := by decide +kernel
theorem dX2_isValue_115 : decode cX2_isValue 115 = .ok (.iconst 1, 1) := by decide +kernel
theorem dX2_isValue_116 : decode cX2_isValue 116 = .ok (.invokestatic 35, 3) := by decide +kernel
theorem dX2_isValue_119 : decode cX2_isValue 119 = .ok (.ireturn, 1) := by decide +kernel
theorem dX2_isValue_120 : decode cX2_isValue 120 = .ok (.iload_n 1, 1) := by decide +kernel
theorem dX2_isValue_121 : decode cX2_isValue 121 = .ok (.iconst 0, 1) := by decide +kernel
theorem dX2_isValue_122 : decode cX2_isValue 122 = .ok (.sipush 999, 3) := by decide +kernel
theorem dX2_isValue_125 : decode cX2_isValue 125 = .ok (.invokestatic 35, 3) := by decide +kernel
theorem dX2_isValue_128 : decode cX2_isValue 128 = .ok (.ireturn, 1) := by decide +kernel
theorem dX2_isValue_129 : decode cX2_isValue 129 = .ok (.iconst 1, 1) := by decide +kernel
theorem dX2_isValue_130 : decode cX2_isValue 130 = .ok (.ireturn, 1) := by decide +kernel
theorem dX2_at_0 : decode cX2_at 0 = .ok (.aload_n 0, 1) := by decide +kernel
theorem dX2_at_1 : decode cX2_at 1 = .ok (.aload_n 0, 1) := by decide +kernel
theorem dX2_at_2 : decode cX2_at 2 = .ok (.iload_n 1, 1) := by decide +kernel
theorem dX2_at_3 : decode cX2_at 3 = .ok (.invokevirtual 45, 3) := by decide +kernel
theorem dX2_at_6 : decode cX2_at 6 = .ok (.ifCond .eq 13, 3) := by decide +kernel
theorem dX2_at_9 : decode cX2_at 9 = .ok (.iload_n 3, 1) := by decide +kernel
theorem dX2_at_10 : decode cX2_at 10 = .ok (.iconst 0, 1) := by decide +kernel
theorem dX2_at_11 : decode cX2_at 11 = .ok (.bipush 9, 2) := by decide +kernel
theorem dX2_at_13 : decode cX2_at 13 = .ok (.invokestatic 35, 3) := by decide +kernel
theorem dX2_at_16 : decode cX2_at 16 = .ok (.ifCond .ne 7, 3) := by decide +kernel
theorem dX2_at_19 : decode cX2_at 19 = .ok (.iconst 1, 1) := by decide +kernel
theorem dX2_at_20 : decode cX2_at 20 = .ok (.goto 4, 3) := by decide +kernel
theorem dX2_at_23 : decode cX2_at 23 = .ok (.iconst 0, 1) := by decide +kernel
theorem dX2_at_24 : decode cX2_at 24 = .ok (.iload_n 2, 1) := by decide +kernel
theorem dX2_at_25 : decode cX2_at 25 = .ok (.invokestatic 52, 3) := by decide +kernel
theorem dX2_at_28 : decode cX2_at 28 = .ok (.ifCond .ne 7, 3) := by decide +kernel
theorem dX2_at_31 : decode cX2_at 31 = .ok (.iconst 1, 1) := by decide +kernel
theorem dX2_at_32 : decode cX2_at 32 = .ok (.goto 4, 3) := by decide +kernel
theorem dX2_at_35 : decode cX2_at 35 = .ok (.iconst 0, 1) := by decide +kernel
theorem dX2_at_36 : decode cX2_at 36 = .ok (.iconst 0, 1) := by decide +kernel
theorem dX2_at_37 : decode cX2_at 37 = .ok (.invokevirtual 40, 3) := by decide +kernel
theorem dX2_at_40 : decode cX2_at 40 = .ok (.ifCond .eq 5, 3) := by decide +kernel
theorem dX2_at_43 : decode cX2_at 43 = .ok (.iconst 0, 1) := by decide +kernel
theorem dX2_at_44 : decode cX2_at 44 = .ok (.ireturn, 1) := by decide +kernel
theorem dX2_at_45 : decode cX2_at 45 = .ok (.iload_n 3, 1) := by decide +kernel
theorem dX2_at_46 : decode cX2_at 46 = .ok (.bipush 9, 2) := by decide +kernel
theorem dX2_at_48 : decode cX2_at 48 = .ok (.if_icmp .ne 10, 3) := by decide +kernel
theorem dX2_at_51 : decode cX2_at 51 = .ok (.aload_n 0, 1) := by decide +kernel
theorem dX2_at_52 : decode cX2_at 52 = .ok (.iload_n 1, 1) := by decide +kernel
theorem dX2_at_53 : decode cX2_at 53 = .ok (.iload_n 2, 1) := by decide +kernel
theorem dX2_at_54 : decode cX2_at 54 = .ok (.invokevirtual 126, 3) := by decide +kernel
theorem dX2_at_57 : decode cX2_at 57 = .ok (.ireturn, 1) := by decide +kernel
theorem dX2_at_58 : decode cX2_at 58 = .ok (.aload_n 0, 1) := by decide +kernel
theorem dX2_at_59 : decode cX2_at 59 = .ok (.iload_n 1, 1) := by decide +kernel
theorem dX2_at_60 : decode cX2_at 60 = .ok (.iload_n 2, 1) := by decide +kernel
theorem dX2_at_61 : decode cX2_at 61 = .ok (.iconst (-1), 1) := by decide +kernel
theorem dX2_at_62 : decode cX2_at 62 = .ok (.invokevirtual 119, 3) := by decide +kernel
theorem dX2_at_65 : decode cX2_at 65 = .ok (.iload_n 3, 1) := by decide +kernel
theorem dX2_at_66 : decode cX2_at 66 = .ok (.tableswitch 97 0 7 #[46, 51, 56, 72, 77, 82, 87, 92], 46) := by decide +kernel
theorem dX2_at_112 : decode cX2_at 112 = .ok (.aload_n 0, 1) := by decide +kernel
theorem dX2_at_113 : decode cX2_at 113 = .ok (.getfield 65, 3) := by decide +kernel
theorem dX2_at_116 : decode cX2_at 116 = .ok (.ireturn, 1) := by decide +kernel
theorem dX2_at_117 : decode cX2_at 117 = .ok (.aload_n 0, 1) := by decide +kernel
theorem dX2_at_118 : decode cX2_at 118 = .ok (.getfield 62, 3) := by decide +kernel
theorem dX2_at_121 : decode cX2_at 121 = .ok (.ireturn, 1) := by decide +kernel
theorem dX2_at_122 : decode cX2_at 122 = .ok (.aload_n 0, 1) := by decide +kernel
theorem dX2_at_123 : decode cX2_at 123 = .ok (.getfield 65, 3) := by decide +kernel
theorem dX2_at_126 : decode cX2_at 126 = .ok (.ifCond .ne 10, 3) := by decide +kernel
theorem dX2_at_129 : decode cX2_at 129 = .ok (.aload_n 0, 1) := by decide +kernel
theorem dX2_at_130 : decode cX2_at 130 = .ok (.getfield 75, 3) := by decide +kernel
theorem dX2_at_133 : decode cX2_at 133 = .ok (.goto 4, 3) := by decide +kernel
theorem dX2_at_136 : decode cX2_at 136 = .ok (.iconst (-1), 1) := by decide +kernel
theorem dX2_at_137 : decode cX2_at 137 = .ok (.ireturn, 1) := by decide +kernel
theorem dX2_at_138 : decode cX2_at 138 = .ok (.aload_n 0, 1) := by decide +kernel
theorem dX2_at_139 : decode cX2_at 139 = .ok (.invokevirtual 130, 3) := by decide +kernel
theorem dX2_at_142 : decode cX2_at 142 = .ok (.ireturn, 1) := by decide +kernel
theorem dX2_at_143 : decode cX2_at 143 = .ok (.aload_n 0, 1) := by decide +kernel
theorem dX2_at_144 : decode cX2_at 144 = .ok (.getfield 93, 3) := by decide +kernel
theorem dX2_at_147 : decode cX2_at 147 = .ok (.ireturn, 1) := by decide +kernel
theorem dX2_at_148 : decode cX2_at 148 = .ok (.aload_n 0, 1) := by decide +kernel
theorem dX2_at_149 : decode cX2_at 149 = .ok (.getfield 108, 3) := by decide +kernel
theorem dX2_at_152 : decode cX2_at 152 = .ok (.ireturn, 1) := by decide +kernel
theorem dX2_at_153 : decode cX2_at 153 = .ok (.aload_n 0, 1) := by decide +kernel
theorem dX2_at_154 : decode cX2_at 154 = .ok (.getfield 99, 3) := by decide +kernel
theorem dX2_at_157 : decode cX2_at 157 = .ok (.ireturn, 1) := by decide +kernel
theorem dX2_at_158 : decode cX2_at 158 = .ok (.aload_n 0, 1) := by decide +kernel
theorem dX2_at_159 : decode cX2_at 159 = .ok (.getfield 68, 3) := by decide +kernel
theorem dX2_at_162 : decode cX2_at 162 = .ok (.ireturn, 1) := by decide +kernel
theorem dX2_at_163 : decode cX2_at 163 = .ok (.aload_n 0, 1) := by decide +kernel
theorem dX2_at_164 : decode cX2_at 164 = .ok (.getfield 65, 3) := by decide +kernel
theorem dX2_at_167 : decode cX2_at 167 = .ok (.ifCond .eq 20, 3) := by decide +kernel
theorem dX2_at_170 : decode cX2_at 170 = .ok (.aload_n 0, 1) := by decide +kernel
theorem dX2_at_171 : decode cX2_at 171 = .ok (.getfield 65, 3) := by decide +kernel
theorem dX2_at_174 : decode cX2_at 174 = .ok (.iconst 5, 1) := by decide +kernel
theorem dX2_at_175 : decode cX2_at 175 = .ok (.if_icmp .eq 12, 3) := by decide +kernel
theorem dX2_at_178 : decode cX2_at 178 = .ok (.aload_n 0, 1) := by decide +kernel
theorem dX2_at_179 : decode cX2_at 179 = .ok (.getfield 65, 3) := by decide +kernel
theorem dX2_at_182 : decode cX2_at 182 = .ok (.bipush 6, 2) := by decide +kernel
theorem dX2_at_184 : decode cX2_at 184 = .ok (.if_icmp .ne 38, 3) := by decide +kernel
theorem dX2_at_187 : decode cX2_at 187 = .ok (.aload_n 0, 1) := by decide +kernel
theorem dX2_at_188 : decode cX2_at 188 = .ok (.getfield 93, 3) := by decide +kernel
theorem dX2_at_191 : decode cX2_at 191 = .ok (.aload_n 0, 1) := by decide +kernel
theorem dX2_at_192 : decode cX2_at 192 = .ok (.getfield 13, 3) := by decide +kernel
theorem dX2_at_195 : decode cX2_at 195 = .ok (.iload_n 1, 1) := by decide +kernel
theorem dX2_at_196 : decode cX2_at 196 = .ok (.iaload, 1) := by decide +kernel
theorem dX2_at_197 : decode cX2_at 197 = .ok (.if_icmp .lt 25, 3) := by decide +kernel
theorem dX2_at_200 : decode cX2_at 200 = .ok (.aload_n 0, 1) := by decide +kernel
theorem dX2_at_201 : decode cX2_at 201 = .ok (.getfield 99, 3) := by decide +kernel
theorem dX2_at_204 : decode cX2_at 204 = .ok (.iconst 1, 1) := by decide +kernel
theorem dX2_at_205 : decode cX2_at 205 = .ok (.if_icmp .ne 17, 3) := by decide +kernel
theorem dX2_at_208 : decode cX2_at 208 = .ok (.aload_n 0, 1) := by decide +kernel
theorem dX2_at_209 : decode cX2_at 209 = .ok (.getfield 68, 3) := by decide +kernel
theorem dX2_at_212 : decode cX2_at 212 = .ok (.sipush 240, 3) := by decide +kernel
theorem dX2_at_215 : decode cX2_at 215 = .ok (.if_icmp .ge 7, 3) := by decide +kernel
theorem dX2_at_218 : decode cX2_at 218 = .ok (.iconst 1, 1) := by decide +kernel
theorem dX2_at_219 : decode cX2_at 219 = .ok (.goto 4, 3) := by decide +kernel
theorem dX2_at_222 : decode cX2_at 222 = .ok (.iconst 0, 1) := by decide +kernel
theorem dX2_at_223 : decode cX2_at 223 = .ok (.ireturn, 1) := by decide +kernel
theorem dX2_rank_0 : decode cX2_rank 0 = .ok (.aload_n 0, 1) := by decide +kernel
theorem dX2_rank_1 : decode cX2_rank 1 = .ok (.iload_n 1, 1) := by decide +kernel
theorem dX2_rank_2 : decode cX2_rank 2 = .ok (.iload_n 2, 1) := by decide +kernel
theorem dX2_rank_3 : decode cX2_rank 3 = .ok (.iconst (-1), 1) := by decide +kernel
theorem dX2_rank_4 : decode cX2_rank 4 = .ok (.invokevirtual 119, 3) := by decide +kernel
theorem dX2_rank_7 : decode cX2_rank 7 = .ok (.aload_n 0, 1) := by decide +kernel
theorem dX2_rank_8 : decode cX2_rank 8 = .ok (.getfield 65, 3) := by decide +kernel
theorem dX2_rank_11 : decode cX2_rank 11 = .ok (.iconst 3, 1) := by decide +kernel
theorem dX2_rank_12 : decode cX2_rank 12 = .ok (.iconst 5, 1) := by decide +kernel
theorem dX2_rank_13 : decode cX2_rank 13 = .ok (.invokestatic 35, 3) := by decide +kernel
theorem dX2_rank_16 : decode cX2_rank 16 = .ok (.ifCond .ne 5, 3) := by decide +kernel
theorem dX2_rank_19 : decode cX2_rank 19 = .ok (.iconst 0, 1) := by decide +kernel
theorem dX2_rank_20 : decode cX2_rank 20 = .ok (.ireturn, 1) := by decide +kernel
theorem dX2_rank_21 : decode cX2_rank 21 = .ok (.iconst 1, 1) := by decide +kernel
theorem dX2_rank_22 : decode cX2_rank 22 = .ok (.aload_n 0, 1) := by decide +kernel
theorem dX2_rank_23 : decode cX2_rank 23 = .ok (.aload_n 0, 1) := by decide +kernel
theorem dX2_rank_24 : decode cX2_rank 24 = .ok (.getfield 78, 3) := by decide +kernel
theorem dX2_rank_27 : decode cX2_rank 27 = .ok (.aload_n 0, 1) := by decide +kernel
theorem dX2_rank_28 : decode cX2_rank 28 = .ok (.getfield 81, 3) := by decide +kernel
theorem dX2_rank_31 : decode cX2_rank 31 = .ok (.iload_n 2, 1) := by decide +kernel
theorem dX2_rank_32 : decode cX2_rank 32 = .ok (.invokevirtual 123, 3) := by decide +kernel
theorem dX2_rank_35 : decode cX2_rank 35 = .ok (.iadd, 1) := by decide +kernel
theorem dX2_rank_36 : decode cX2_rank 36 = .ok (.ireturn, 1) := by decide +kernel
theorem dX2_follow_0 : decode cX2_follow 0 = .ok (.aload_n 0, 1) := by decide +kernel
theorem dX2_follow_1 : decode cX2_follow 1 = .ok (.iconst 0, 1) := by decide +kernel
theorem dX2_follow_2 : decode cX2_follow 2 = .ok (.putfield 65, 3) := by decide +kernel
theorem dX2_follow_5 : decode cX2_follow 5 = .ok (.aload_n 0, 1) := by decide +kernel
theorem dX2_follow_6 : decode cX2_follow 6 = .ok (.iconst 0, 1) := by decide +kernel
theorem dX2_follow_7 : decode cX2_follow 7 = .ok (.putfield 62, 3) := by decide +kernel
theorem dX2_follow_10 : decode cX2_follow 10 = .ok (.aload_n 0, 1) := by decide +kernel
theorem dX2_follow_11 : decode cX2_follow 11 = .ok (.aload_n 0, 1) := by decide +kernel
theorem dX2_follow_12 : decode cX2_follow 12 = .ok (.getfield 7, 3) := by decide +kernel
theorem dX2_follow_15 : decode cX2_follow 15 = .ok (.iload_n 1, 1) := by decide +kernel
theorem dX2_follow_16 : decode cX2_follow 16 = .ok (.iaload, 1) := by decide +kernel
theorem dX2_follow_17 : decode cX2_follow 17 = .ok (.putfield 75, 3) := by decide +kernel
theorem dX2_follow_20 : decode cX2_follow 20 = .ok (.aload_n 0, 1) := by decide +kernel
theorem dX2_follow_21 : decode cX2_follow 21 = .ok (.iconst (-1), 1) := by decide +kernel
theorem dX2_follow_22 : decode cX2_follow 22 = .ok (.putfield 78, 3) := by decide +kernel
theorem dX2_follow_25 : decode cX2_follow 25 = .ok (.aload_n 0, 1) := by decide +kernel
theorem dX2_follow_26 : decode cX2_follow 26 = .ok (.aload_n 0, 1) := by decide +kernel
theorem dX2_follow_27 : decode cX2_follow 27 = .ok (.getfield 13, 3) := by decide +kernel
theorem dX2_follow_30 : decode cX2_follow 30 = .ok (.iload_n 1, 1) := by decide +kernel
theorem dX2_follow_31 : decode cX2_follow 31 = .ok (.iaload, 1) := by decide +kernel
theorem dX2_follow_32 : decode cX2_follow 32 = .ok (.putfield 93, 3) := by decide +kernel
theorem dX2_follow_35 : decode cX2_follow 35 = .ok (.aload_n 0, 1) := by decide +kernel
theorem dX2_follow_36 : decode cX2_follow 36 = .ok (.iconst 0, 1) := by decide +kernel
theorem dX2_follow_37 : decode cX2_follow 37 = .ok (.putfield 108, 3) := by decide +kernel
theorem dX2_follow_40 : decode cX2_follow 40 = .ok (.aload_n 0, 1) := by decide +kernel
theorem dX2_follow_41 : decode cX2_follow 41 = .ok (.iconst 1, 1) := by decide +kernel
theorem dX2_follow_42 : decode cX2_follow 42 = .ok (.putfield 99, 3) := by decide +kernel
theorem dX2_follow_45 : decode cX2_follow 45 = .ok (.aload_n 0, 1) := by decide +kernel
theorem dX2_follow_46 : decode cX2_follow 46 = .ok (.iconst 0, 1) := by decide +kernel
theorem dX2_follow_47 : decode cX2_follow 47 = .ok (.putfield 68, 3) := by decide +kernel
theorem dX2_follow_50 : decode cX2_follow 50 = .ok (.aload_n 0, 1) := by decide +kernel
theorem dX2_follow_51 : decode cX2_follow 51 = .ok (.iconst (-1), 1) := by decide +kernel
theorem dX2_follow_52 : decode cX2_follow 52 = .ok (.putfield 102, 3) := by decide +kernel
theorem dX2_follow_55 : decode cX2_follow 55 = .ok (.aload_n 0, 1) := by decide +kernel
theorem dX2_follow_56 : decode cX2_follow 56 = .ok (.iconst (-1), 1) := by decide +kernel
theorem dX2_follow_57 : decode cX2_follow 57 = .ok (.putfield 105, 3) := by decide +kernel
theorem dX2_follow_60 : decode cX2_follow 60 = .ok (.aload_n 0, 1) := by decide +kernel
theorem dX2_follow_61 : decode cX2_follow 61 = .ok (.iconst (-1), 1) := by decide +kernel
theorem dX2_follow_62 : decode cX2_follow 62 = .ok (.putfield 84, 3) := by decide +kernel
theorem dX2_follow_65 : decode cX2_follow 65 = .ok (.aload_n 0, 1) := by decide +kernel
theorem dX2_follow_66 : decode cX2_follow 66 = .ok (.iconst (-1), 1) := by decide +kernel
theorem dX2_follow_67 : decode cX2_follow 67 = .ok (.putfield 81, 3) := by decide +kernel
theorem dX2_follow_70 : decode cX2_follow 70 = .ok (.aload_n 0, 1) := by decide +kernel
theorem dX2_follow_71 : decode cX2_follow 71 = .ok (.iload_n 1, 1) := by decide +kernel
theorem dX2_follow_72 : decode cX2_follow 72 = .ok (.iconst (-1), 1) := by decide +kernel
theorem dX2_follow_73 : decode cX2_follow 73 = .ok (.iload_n 2, 1) := by decide +kernel
theorem dX2_follow_74 : decode cX2_follow 74 = .ok (.invokevirtual 111, 3) := by decide +kernel
theorem dX2_follow_77 : decode cX2_follow 77 = .ok (.istore 4, 2) := by decide +kernel
theorem dX2_follow_79 : decode cX2_follow 79 = .ok (.iload 4, 2) := by decide +kernel
theorem dX2_follow_81 : decode cX2_follow 81 = .ok (.ifCond .lt 7, 3) := by decide +kernel
theorem dX2_follow_84 : decode cX2_follow 84 = .ok (.iconst 1, 1) := by decide +kernel
theorem dX2_follow_85 : decode cX2_follow 85 = .ok (.goto 4, 3) := by decide +kernel
theorem dX2_follow_88 : decode cX2_follow 88 = .ok (.iconst 0, 1) := by decide +kernel
theorem dX2_follow_89 : decode cX2_follow 89 = .ok (.istore 5, 2) := by decide +kernel
theorem dX2_follow_91 : decode cX2_follow 91 = .ok (.iload 5, 2) := by decide +kernel
theorem dX2_follow_93 : decode cX2_follow 93 = .ok (.ifCond .eq 63, 3) := by decide +kernel
theorem dX2_follow_96 : decode cX2_follow 96 = .ok (.aload_n 0, 1) := by decide +kernel
theorem dX2_follow_97 : decode cX2_follow 97 = .ok (.iload_n 1, 1) := by decide +kernel
theorem dX2_follow_98 : decode cX2_follow 98 = .ok (.iload 4, 2) := by decide +kernel
theorem dX2_follow_100 : decode cX2_follow 100 = .ok (.invokevirtual 115, 3) := by decide +kernel
theorem dX2_follow_103 : decode cX2_follow 103 = .ok (.iload 4, 2) := by decide +kernel
theorem dX2_follow_105 : decode cX2_follow 105 = .ok (.iload_n 3, 1) := by decide +kernel
theorem dX2_follow_106 : decode cX2_follow 106 = .ok (.if_icmp .eq 7, 3) := by decide +kernel
theorem dX2_follow_109 : decode cX2_follow 109 = .ok (.iconst 1, 1) := by decide +kernel
theorem dX2_follow_110 : decode cX2_follow 110 = .ok (.goto 4, 3) := by decide +kernel
theorem dX2_follow_113 : decode cX2_follow 113 = .ok (.iconst 0, 1) := by decide +kernel
theorem dX2_follow_114 : decode cX2_follow 114 = .ok (.istore 5, 2) := by decide +kernel
theorem dX2_follow_116 : decode cX2_follow 116 = .ok (.iload 5, 2) := by decide +kernel
theorem dX2_follow_118 : decode cX2_follow 118 = .ok (.ifCond .eq 14, 3) := by decide +kernel
theorem dX2_follow_121 : decode cX2_follow 121 = .ok (.aload_n 0, 1) := by decide +kernel
theorem dX2_follow_122 : decode cX2_follow 122 = .ok (.iload_n 1, 1) := by decide +kernel
theorem dX2_follow_123 : decode cX2_follow 123 = .ok (.iload 4, 2) := by decide +kernel
theorem dX2_follow_125 : decode cX2_follow 125 = .ok (.iload_n 2, 1) := by decide +kernel
theorem dX2_follow_126 : decode cX2_follow 126 = .ok (.invokevirtual 111, 3) := by decide +kernel
theorem dX2_follow_129 : decode cX2_follow 129 = .ok (.goto 5, 3) := by decide +kernel
theorem dX2_follow_132 : decode cX2_follow 132 = .ok (.iload 4, 2) := by decide +kernel
theorem dX2_follow_134 : decode cX2_follow 134 = .ok (.istore 4, 2) := by decide +kernel
theorem dX2_follow_136 : decode cX2_follow 136 = .ok (.iload 5, 2) := by decide +kernel
theorem dX2_follow_138 : decode cX2_follow 138 = .ok (.ifCond .eq 12, 3) := by decide +kernel
theorem dX2_follow_141 : decode cX2_follow 141 = .ok (.iload 4, 2) := by decide +kernel
theorem dX2_follow_143 : decode cX2_follow 143 = .ok (.ifCond .lt 7, 3) := by decide +kernel
theorem dX2_follow_146 : decode cX2_follow 146 = .ok (.iconst 1, 1) := by decide +kernel
theorem dX2_follow_147 : decode cX2_follow 147 = .ok (.goto 4, 3) := by decide +kernel
theorem dX2_follow_150 : decode cX2_follow 150 = .ok (.iconst 0, 1) := by decide +kernel
theorem dX2_follow_151 : decode cX2_follow 151 = .ok (.istore 5, 2) := by decide +kernel
theorem dX2_follow_153 : decode cX2_follow 153 = .ok (.goto (-62), 3) := by decide +kernel
theorem dX2_follow_156 : decode cX2_follow 156 = .ok (.iload_n 3, 1) := by decide +kernel
theorem dX2_follow_157 : decode cX2_follow 157 = .ok (.ifCond .ge 8, 3) := by decide +kernel
theorem dX2_follow_160 : decode cX2_follow 160 = .ok (.aload_n 0, 1) := by decide +kernel
theorem dX2_follow_161 : decode cX2_follow 161 = .ok (.iload_n 2, 1) := by decide +kernel
theorem dX2_follow_162 : decode cX2_follow 162 = .ok (.invokevirtual 71, 3) := by decide +kernel
theorem dX2_follow_165 : decode cX2_follow 165 = .ok (.return_, 1) := by decide +kernel
theorem dX2_next_0 : decode cX2_next 0 = .ok (.iconst (-1), 1) := by decide +kernel
theorem dX2_next_1 : decode cX2_next 1 = .ok (.istore 4, 2) := by decide +kernel
theorem dX2_next_3 : decode cX2_next 3 = .ok (.iconst 0, 1) := by decide +kernel
theorem dX2_next_4 : decode cX2_next 4 = .ok (.istore 5, 2) := by decide +kernel
theorem dX2_next_6 : decode cX2_next 6 = .ok (.iload 5, 2) := by decide +kernel
theorem dX2_next_8 : decode cX2_next 8 = .ok (.aload_n 0, 1) := by decide +kernel
theorem dX2_next_9 : decode cX2_next 9 = .ok (.getfield 59, 3) := by decide +kernel
theorem dX2_next_12 : decode cX2_next 12 = .ok (.if_icmp .ge 123, 3) := by decide +kernel
theorem dX2_next_15 : decode cX2_next 15 = .ok (.iload_n 2, 1) := by decide +kernel
theorem dX2_next_16 : decode cX2_next 16 = .ok (.ifCond .lt 41, 3) := by decide +kernel
theorem dX2_next_19 : decode cX2_next 19 = .ok (.aload_n 0, 1) := by decide +kernel
theorem dX2_next_20 : decode cX2_next 20 = .ok (.getfield 19, 3) := by decide +kernel
theorem dX2_next_23 : decode cX2_next 23 = .ok (.iload 5, 2) := by decide +kernel
theorem dX2_next_25 : decode cX2_next 25 = .ok (.iaload, 1) := by decide +kernel
theorem dX2_next_26 : decode cX2_next 26 = .ok (.aload_n 0, 1) := by decide +kernel
theorem dX2_next_27 : decode cX2_next 27 = .ok (.getfield 19, 3) := by decide +kernel
theorem dX2_next_30 : decode cX2_next 30 = .ok (.iload_n 2, 1) := by decide +kernel
theorem dX2_next_31 : decode cX2_next 31 = .ok (.iaload, 1) := by decide +kernel
theorem dX2_next_32 : decode cX2_next 32 = .ok (.if_icmp .gt 25, 3) := by decide +kernel
theorem dX2_next_35 : decode cX2_next 35 = .ok (.aload_n 0, 1) := by decide +kernel
theorem dX2_next_36 : decode cX2_next 36 = .ok (.getfield 19, 3) := by decide +kernel
theorem dX2_next_39 : decode cX2_next 39 = .ok (.iload 5, 2) := by decide +kernel
theorem dX2_next_41 : decode cX2_next 41 = .ok (.iaload, 1) := by decide +kernel
theorem dX2_next_42 : decode cX2_next 42 = .ok (.aload_n 0, 1) := by decide +kernel
theorem dX2_next_43 : decode cX2_next 43 = .ok (.getfield 19, 3) := by decide +kernel
theorem dX2_next_46 : decode cX2_next 46 = .ok (.iload_n 2, 1) := by decide +kernel
theorem dX2_next_47 : decode cX2_next 47 = .ok (.iaload, 1) := by decide +kernel
theorem dX2_next_48 : decode cX2_next 48 = .ok (.if_icmp .ne 13, 3) := by decide +kernel
theorem dX2_next_51 : decode cX2_next 51 = .ok (.iload 5, 2) := by decide +kernel
theorem dX2_next_53 : decode cX2_next 53 = .ok (.iload_n 2, 1) := by decide +kernel
theorem dX2_next_54 : decode cX2_next 54 = .ok (.if_icmp .le 7, 3) := by decide +kernel
theorem dX2_next_57 : decode cX2_next 57 = .ok (.iconst 1, 1) := by decide +kernel
theorem dX2_next_58 : decode cX2_next 58 = .ok (.goto 4, 3) := by decide +kernel
theorem dX2_next_61 : decode cX2_next 61 = .ok (.iconst 0, 1) := by decide +kernel
theorem dX2_next_62 : decode cX2_next 62 = .ok (.istore 6, 2) := by decide +kernel
theorem dX2_next_64 : decode cX2_next 64 = .ok (.aload_n 0, 1) := by decide +kernel
theorem dX2_next_65 : decode cX2_next 65 = .ok (.getfield 16, 3) := by decide +kernel
theorem dX2_next_68 : decode cX2_next 68 = .ok (.iload 5, 2) := by decide +kernel
theorem dX2_next_70 : decode cX2_next 70 = .ok (.iaload, 1) := by decide +kernel
theorem dX2_next_71 : decode cX2_next 71 = .ok (.iload_n 1, 1) := by decide +kernel
theorem dX2_next_72 : decode cX2_next 72 = .ok (.if_icmp .ne 23, 3) := by decide +kernel
theorem dX2_next_75 : decode cX2_next 75 = .ok (.aload_n 0, 1) := by decide +kernel
theorem dX2_next_76 : decode cX2_next 76 = .ok (.getfield 19, 3) := by decide +kernel
theorem dX2_next_79 : decode cX2_next 79 = .ok (.iload 5, 2) := by decide +kernel
theorem dX2_next_81 : decode cX2_next 81 = .ok (.iaload, 1) := by decide +kernel
theorem dX2_next_82 : decode cX2_next 82 = .ok (.iload_n 3, 1) := by decide +kernel
theorem dX2_next_83 : decode cX2_next 83 = .ok (.if_icmp .gt 12, 3) := by decide +kernel
theorem dX2_next_86 : decode cX2_next 86 = .ok (.iload 6, 2) := by decide +kernel
theorem dX2_next_88 : decode cX2_next 88 = .ok (.ifCond .eq 7, 3) := by decide +kernel
theorem dX2_next_91 : decode cX2_next 91 = .ok (.iconst 1, 1) := by decide +kernel
theorem dX2_next_92 : decode cX2_next 92 = .ok (.goto 4, 3) := by decide +kernel
theorem dX2_next_95 : decode cX2_next 95 = .ok (.iconst 0, 1) := by decide +kernel
theorem dX2_next_96 : decode cX2_next 96 = .ok (.istore 7, 2) := by decide +kernel
theorem dX2_next_98 : decode cX2_next 98 = .ok (.iload 7, 2) := by decide +kernel
theorem dX2_next_100 : decode cX2_next 100 = .ok (.ifCond .eq 29, 3) := by decide +kernel
theorem dX2_next_103 : decode cX2_next 103 = .ok (.iload 4, 2) := by decide +kernel
theorem dX2_next_105 : decode cX2_next 105 = .ok (.ifCond .lt 20, 3) := by decide +kernel
theorem dX2_next_108 : decode cX2_next 108 = .ok (.aload_n 0, 1) := by decide +kernel
theorem dX2_next_109 : decode cX2_next 109 = .ok (.getfield 19, 3) := by decide +kernel
theorem dX2_next_112 : decode cX2_next 112 = .ok (.iload 5, 2) := by decide +kernel
theorem dX2_next_114 : decode cX2_next 114 = .ok (.iaload, 1) := by decide +kernel
theorem dX2_next_115 : decode cX2_next 115 = .ok (.aload_n 0, 1) := by decide +kernel
theorem dX2_next_116 : decode cX2_next 116 = .ok (.getfield 19, 3) := by decide +kernel
theorem dX2_next_119 : decode cX2_next 119 = .ok (.iload 4, 2) := by decide +kernel
theorem dX2_next_121 : decode cX2_next 121 = .ok (.iaload, 1) := by decide +kernel
theorem dX2_next_122 : decode cX2_next 122 = .ok (.if_icmp .ge 7, 3) := by decide +kernel
theorem dX2_next_125 : decode cX2_next 125 = .ok (.iload 5, 2) := by decide +kernel
theorem dX2_next_127 : decode cX2_next 127 = .ok (.istore 4, 2) := by decide +kernel
theorem dX2_next_129 : decode cX2_next 129 = .ok (.iinc 5 1, 3) := by decide +kernel
theorem dX2_next_132 : decode cX2_next 132 = .ok (.goto (-126), 3) := by decide +kernel
theorem dX2_next_135 : decode cX2_next 135 = .ok (.iload 4, 2) := by decide +kernel
theorem dX2_next_137 : decode cX2_next 137 = .ok (.ireturn, 1) := by decide +kernel
theorem dX2_take_0 : decode cX2_take 0 = .ok (.aload_n 0, 1) := by decide +kernel
theorem dX2_take_1 : decode cX2_take 1 = .ok (.getfield 22, 3) := by decide +kernel
theorem dX2_take_4 : decode cX2_take 4 = .ok (.iload_n 2, 1) := by decide +kernel
theorem dX2_take_5 : decode cX2_take 5 = .ok (.iaload, 1) := by decide +kernel
theorem dX2_take_6 : decode cX2_take 6 = .ok (.istore_n 3, 1) := by decide +kernel
theorem dX2_take_7 : decode cX2_take 7 = .ok (.aload_n 0, 1) := by decide +kernel
theorem dX2_take_8 : decode cX2_take 8 = .ok (.iconst 0, 1) := by decide +kernel
theorem dX2_take_9 : decode cX2_take 9 = .ok (.putfield 87, 3) := by decide +kernel
theorem dX2_take_12 : decode cX2_take 12 = .ok (.iload_n 3, 1) := by decide +kernel
theorem dX2_take_13 : decode cX2_take 13 = .ok (.bipush 11, 2) := by decide +kernel
theorem dX2_take_15 : decode cX2_take 15 = .ok (.if_icmp .ge 88, 3) := by decide +kernel
theorem dX2_take_18 : decode cX2_take 18 = .ok (.aload_n 0, 1) := by decide +kernel
theorem dX2_take_19 : decode cX2_take 19 = .ok (.getfield 65, 3) := by decide +kernel
theorem dX2_take_22 : decode cX2_take 22 = .ok (.iload_n 3, 1) := by decide +kernel
theorem dX2_take_23 : decode cX2_take 23 = .ok (.invokestatic 90, 3) := by decide +kernel
theorem dX2_take_26 : decode cX2_take 26 = .ok (.ifCond .ne 11, 3) := by decide +kernel
theorem dX2_take_29 : decode cX2_take 29 = .ok (.aload_n 0, 1) := by decide +kernel
theorem dX2_take_30 : decode cX2_take 30 = .ok (.iconst 1, 1) := by decide +kernel
theorem dX2_take_31 : decode cX2_take 31 = .ok (.putfield 87, 3) := by decide +kernel
theorem dX2_take_34 : decode cX2_take 34 = .ok (.goto 187, 3) := by decide +kernel
theorem dX2_take_37 : decode cX2_take 37 = .ok (.iload_n 3, 1) := by decide +kernel
theorem dX2_take_38 : decode cX2_take 38 = .ok (.iconst 2, 1) := by decide +kernel
theorem dX2_take_39 : decode cX2_take 39 = .ok (.iconst 4, 1) := by decide +kernel
theorem dX2_take_40 : decode cX2_take 40 = .ok (.invokestatic 35, 3) := by decide +kernel
theorem dX2_take_43 : decode cX2_take 43 = .ok (.ifCond .eq 24, 3) := by decide +kernel
theorem dX2_take_46 : decode cX2_take 46 = .ok (.aload_n 0, 1) := by decide +kernel
theorem dX2_take_47 : decode cX2_take 47 = .ok (.getfield 93, 3) := by decide +kernel
theorem dX2_take_50 : decode cX2_take 50 = .ok (.aload_n 0, 1) := by decide +kernel
theorem dX2_take_51 : decode cX2_take 51 = .ok (.getfield 13, 3) := by decide +kernel
theorem dX2_take_54 : decode cX2_take 54 = .ok (.iload_n 1, 1) := by decide +kernel
theorem dX2_take_55 : decode cX2_take 55 = .ok (.iaload, 1) := by decide +kernel
theorem dX2_take_56 : decode cX2_take 56 = .ok (.if_icmp .ge 11, 3) := by decide +kernel
theorem dX2_take_59 : decode cX2_take 59 = .ok (.aload_n 0, 1) := by decide +kernel
theorem dX2_take_60 : decode cX2_take 60 = .ok (.iconst 2, 1) := by decide +kernel
theorem dX2_take_61 : decode cX2_take 61 = .ok (.putfield 87, 3) := by decide +kernel
theorem dX2_take_64 : decode cX2_take 64 = .ok (.goto 157, 3) := by decide +kernel
theorem dX2_take_67 : decode cX2_take 67 = .ok (.aload_n 0, 1) := by decide +kernel
theorem dX2_take_68 : decode cX2_take 68 = .ok (.iload_n 2, 1) := by decide +kernel
theorem dX2_take_69 : decode cX2_take 69 = .ok (.invokevirtual 96, 3) := by decide +kernel
theorem dX2_take_72 : decode cX2_take 72 = .ok (.aload_n 0, 1) := by decide +kernel
theorem dX2_take_73 : decode cX2_take 73 = .ok (.iload_n 3, 1) := by decide +kernel
theorem dX2_take_74 : decode cX2_take 74 = .ok (.ifCond .ne 22, 3) := by decide +kernel
theorem dX2_take_77 : decode cX2_take 77 = .ok (.aload_n 0, 1) := by decide +kernel
theorem dX2_take_78 : decode cX2_take 78 = .ok (.getfield 25, 3) := by decide +kernel
theorem dX2_take_81 : decode cX2_take 81 = .ok (.iload_n 2, 1) := by decide +kernel
theorem dX2_take_82 : decode cX2_take 82 = .ok (.iaload, 1) := by decide +kernel
theorem dX2_take_83 : decode cX2_take 83 = .ok (.aload_n 0, 1) := by decide +kernel
theorem dX2_take_84 : decode cX2_take 84 = .ok (.getfield 7, 3) := by decide +kernel
theorem dX2_take_87 : decode cX2_take 87 = .ok (.iload_n 1, 1) := by decide +kernel
theorem dX2_take_88 : decode cX2_take 88 = .ok (.iaload, 1) := by decide +kernel
theorem dX2_take_89 : decode cX2_take 89 = .ok (.if_icmp .eq 7, 3) := by decide +kernel
theorem dX2_take_92 : decode cX2_take 92 = .ok (.iconst 3, 1) := by decide +kernel
theorem dX2_take_93 : decode cX2_take 93 = .ok (.goto 4, 3) := by decide +kernel
theorem dX2_take_96 : decode cX2_take 96 = .ok (.iconst 0, 1) := by decide +kernel
theorem dX2_take_97 : decode cX2_take 97 = .ok (.putfield 87, 3) := by decide +kernel
theorem dX2_take_100 : decode cX2_take 100 = .ok (.goto 121, 3) := by decide +kernel
theorem dX2_take_103 : decode cX2_take 103 = .ok (.iload_n 3, 1) := by decide +kernel
theorem dX2_take_104 : decode cX2_take 104 = .ok (.bipush 11, 2) := by decide +kernel
theorem dX2_take_106 : decode cX2_take 106 = .ok (.if_icmp .ne 41, 3) := by decide +kernel
theorem dX2_take_109 : decode cX2_take 109 = .ok (.aload_n 0, 1) := by decide +kernel
theorem dX2_take_110 : decode cX2_take 110 = .ok (.getfield 99, 3) := by decide +kernel
theorem dX2_take_113 : decode cX2_take 113 = .ok (.ifCond .ne 11, 3) := by decide +kernel
theorem dX2_take_116 : decode cX2_take 116 = .ok (.aload_n 0, 1) := by decide +kernel
theorem dX2_take_117 : decode cX2_take 117 = .ok (.iconst 4, 1) := by decide +kernel
theorem dX2_take_118 : decode cX2_take 118 = .ok (.putfield 87, 3) := by decide +kernel
theorem dX2_take_121 : decode cX2_take 121 = .ok (.goto 100, 3) := by decide +kernel
theorem dX2_take_124 : decode cX2_take 124 = .ok (.aload_n 0, 1) := by decide +kernel
theorem dX2_take_125 : decode cX2_take 125 = .ok (.aload_n 0, 1) := by decide +kernel
theorem dX2_take_126 : decode cX2_take 126 = .ok (.getfield 25, 3) := by decide +kernel
theorem dX2_take_129 : decode cX2_take 129 = .ok (.iload_n 2, 1) := by decide +kernel
theorem dX2_take_130 : decode cX2_take 130 = .ok (.iaload, 1) := by decide +kernel
theorem dX2_take_131 : decode cX2_take 131 = .ok (.putfield 102, 3) := by decide +kernel
theorem dX2_take_134 : decode cX2_take 134 = .ok (.aload_n 0, 1) := by decide +kernel
theorem dX2_take_135 : decode cX2_take 135 = .ok (.aload_n 0, 1) := by decide +kernel
theorem dX2_take_136 : decode cX2_take 136 = .ok (.getfield 19, 3) := by decide +kernel
theorem dX2_take_139 : decode cX2_take 139 = .ok (.iload_n 2, 1) := by decide +kernel
theorem dX2_take_140 : decode cX2_take 140 = .ok (.iaload, 1) := by decide +kernel
theorem dX2_take_141 : decode cX2_take 141 = .ok (.putfield 105, 3) := by decide +kernel
theorem dX2_take_144 : decode cX2_take 144 = .ok (.goto 77, 3) := by decide +kernel
theorem dX2_take_147 : decode cX2_take 147 = .ok (.iload_n 3, 1) := by decide +kernel
theorem dX2_take_148 : decode cX2_take 148 = .ok (.bipush 12, 2) := by decide +kernel
theorem dX2_take_150 : decode cX2_take 150 = .ok (.if_icmp .ne 16, 3) := by decide +kernel
theorem dX2_take_153 : decode cX2_take 153 = .ok (.aload_n 0, 1) := by decide +kernel
theorem dX2_take_154 : decode cX2_take 154 = .ok (.aload_n 0, 1) := by decide +kernel
theorem dX2_take_155 : decode cX2_take 155 = .ok (.getfield 25, 3) := by decide +kernel
theorem dX2_take_158 : decode cX2_take 158 = .ok (.iload_n 2, 1) := by decide +kernel
theorem dX2_take_159 : decode cX2_take 159 = .ok (.iaload, 1) := by decide +kernel
theorem dX2_take_160 : decode cX2_take 160 = .ok (.putfield 93, 3) := by decide +kernel
theorem dX2_take_163 : decode cX2_take 163 = .ok (.goto 58, 3) := by decide +kernel
theorem dX2_take_166 : decode cX2_take 166 = .ok (.iload_n 3, 1) := by decide +kernel
theorem dX2_take_167 : decode cX2_take 167 = .ok (.bipush 13, 2) := by decide +kernel
theorem dX2_take_169 : decode cX2_take 169 = .ok (.if_icmp .ne 16, 3) := by decide +kernel
theorem dX2_take_172 : decode cX2_take 172 = .ok (.aload_n 0, 1) := by decide +kernel
theorem dX2_take_173 : decode cX2_take 173 = .ok (.aload_n 0, 1) := by decide +kernel
theorem dX2_take_174 : decode cX2_take 174 = .ok (.getfield 25, 3) := by decide +kernel
theorem dX2_take_177 : decode cX2_take 177 = .ok (.iload_n 2, 1) := by decide +kernel
theorem dX2_take_178 : decode cX2_take 178 = .ok (.iaload, 1) := by decide +kernel
theorem dX2_take_179 : decode cX2_take 179 = .ok (.putfield 108, 3) := by decide +kernel
theorem dX2_take_182 : decode cX2_take 182 = .ok (.goto 39, 3) := by decide +kernel
theorem dX2_take_185 : decode cX2_take 185 = .ok (.iload_n 3, 1) := by decide +kernel
theorem dX2_take_186 : decode cX2_take 186 = .ok (.bipush 14, 2) := by decide +kernel
theorem dX2_take_188 : decode cX2_take 188 = .ok (.if_icmp .ne 16, 3) := by decide +kernel
theorem dX2_take_191 : decode cX2_take 191 = .ok (.aload_n 0, 1) := by decide +kernel
theorem dX2_take_192 : decode cX2_take 192 = .ok (.aload_n 0, 1) := by decide +kernel
theorem dX2_take_193 : decode cX2_take 193 = .ok (.getfield 25, 3) := by decide +kernel
theorem dX2_take_196 : decode cX2_take 196 = .ok (.iload_n 2, 1) := by decide +kernel
theorem dX2_take_197 : decode cX2_take 197 = .ok (.iaload, 1) := by decide +kernel
theorem dX2_take_198 : decode cX2_take 198 = .ok (.putfield 99, 3) := by decide +kernel
theorem dX2_take_201 : decode cX2_take 201 = .ok (.goto 20, 3) := by decide +kernel
theorem dX2_take_204 : decode cX2_take 204 = .ok (.aload_n 0, 1) := by decide +kernel
theorem dX2_take_205 : decode cX2_take 205 = .ok (.aload_n 0, 1) := by decide +kernel
theorem dX2_take_206 : decode cX2_take 206 = .ok (.getfield 19, 3) := by decide +kernel
theorem dX2_take_209 : decode cX2_take 209 = .ok (.iload_n 2, 1) := by decide +kernel
theorem dX2_take_210 : decode cX2_take 210 = .ok (.iaload, 1) := by decide +kernel
theorem dX2_take_211 : decode cX2_take 211 = .ok (.aload_n 0, 1) := by decide +kernel
theorem dX2_take_212 : decode cX2_take 212 = .ok (.getfield 25, 3) := by decide +kernel
theorem dX2_take_215 : decode cX2_take 215 = .ok (.iload_n 2, 1) := by decide +kernel
theorem dX2_take_216 : decode cX2_take 216 = .ok (.iaload, 1) := by decide +kernel
theorem dX2_take_217 : decode cX2_take 217 = .ok (.iadd, 1) := by decide +kernel
theorem dX2_take_218 : decode cX2_take 218 = .ok (.putfield 84, 3) := by decide +kernel
theorem dX2_take_221 : decode cX2_take 221 = .ok (.return_, 1) := by decide +kernel
theorem dX2_follows_0 : decode cX2_follows 0 = .ok (.iload_n 0, 1) := by decide +kernel
theorem dX2_follows_1 : decode cX2_follows 1 = .ok (.tableswitch 217 0 9 #[55, 72, 87, 104, 120, 131, 148, 169, 185, 201], 55) := by decide +kernel
theorem dX2_follows_56 : decode cX2_follows 56 = .ok (.iload_n 1, 1) := by decide +kernel
theorem dX2_follows_57 : decode cX2_follows 57 = .ok (.iconst 1, 1) := by decide +kernel
theorem dX2_follows_58 : decode cX2_follows 58 = .ok (.if_icmp .eq 9, 3) := by decide +kernel
theorem dX2_follows_61 : decode cX2_follows 61 = .ok (.iload_n 1, 1) := by decide +kernel
theorem dX2_follows_62 : decode cX2_follows 62 = .ok (.bipush 6, 2) := by decide +kernel
theorem dX2_follows_64 : decode cX2_follows 64 = .ok (.if_icmp .le 7, 3) := by decide +kernel
theorem dX2_follows_67 : decode cX2_follows 67 = .ok (.iconst 1, 1) := by decide +kernel
theorem dX2_follows_68 : decode cX2_follows 68 = .ok (.goto 4, 3) := by decide +kernel
theorem dX2_follows_71 : decode cX2_follows 71 = .ok (.iconst 0, 1) := by decide +kernel
theorem dX2_follows_72 : decode cX2_follows 72 = .ok (.ireturn, 1) := by decide +kernel
theorem dX2_follows_73 : decode cX2_follows 73 = .ok (.iload_n 1, 1) := by decide +kernel
theorem dX2_follows_74 : decode cX2_follows 74 = .ok (.iconst 2, 1) := by decide +kernel
theorem dX2_follows_75 : decode cX2_follows 75 = .ok (.if_icmp .eq 7, 3) := by decide +kernel
theorem dX2_follows_78 : decode cX2_follows 78 = .ok (.iload_n 1, 1) := by decide +kernel
theorem dX2_follows_79 : decode cX2_follows 79 = .ok (.ifCond .ne 7, 3) := by decide +kernel
theorem dX2_follows_82 : decode cX2_follows 82 = .ok (.iconst 1, 1) := by decide +kernel
theorem dX2_follows_83 : decode cX2_follows 83 = .ok (.goto 4, 3) := by decide +kernel
theorem dX2_follows_86 : decode cX2_follows 86 = .ok (.iconst 0, 1) := by decide +kernel
theorem dX2_follows_87 : decode cX2_follows 87 = .ok (.ireturn, 1) := by decide +kernel
theorem dX2_follows_88 : decode cX2_follows 88 = .ok (.iload_n 1, 1) := by decide +kernel
theorem dX2_follows_89 : decode cX2_follows 89 = .ok (.iconst 3, 1) := by decide +kernel
theorem dX2_follows_90 : decode cX2_follows 90 = .ok (.if_icmp .eq 9, 3) := by decide +kernel
theorem dX2_follows_93 : decode cX2_follows 93 = .ok (.iload_n 1, 1) := by decide +kernel
theorem dX2_follows_94 : decode cX2_follows 94 = .ok (.bipush 6, 2) := by decide +kernel
theorem dX2_follows_96 : decode cX2_follows 96 = .ok (.if_icmp .ne 7, 3) := by decide +kernel
theorem dX2_follows_99 : decode cX2_follows 99 = .ok (.iconst 1, 1) := by decide +kernel
theorem dX2_follows_100 : decode cX2_follows 100 = .ok (.goto 4, 3) := by decide +kernel
theorem dX2_follows_103 : decode cX2_follows 103 = .ok (.iconst 0, 1) := by decide +kernel
theorem dX2_follows_104 : decode cX2_follows 104 = .ok (.ireturn, 1) := by decide +kernel
theorem dX2_follows_105 : decode cX2_follows 105 = .ok (.iload_n 1, 1) := by decide +kernel
theorem dX2_follows_106 : decode cX2_follows 106 = .ok (.iconst 4, 1) := by decide +kernel
theorem dX2_follows_107 : decode cX2_follows 107 = .ok (.if_icmp .eq 8, 3) := by decide +kernel
theorem dX2_follows_110 : decode cX2_follows 110 = .ok (.iload_n 1, 1) := by decide +kernel
theorem dX2_follows_111 : decode cX2_follows 111 = .ok (.iconst 5, 1) := by decide +kernel
theorem dX2_follows_112 : decode cX2_follows 112 = .ok (.if_icmp .ne 7, 3) := by decide +kernel
theorem dX2_follows_115 : decode cX2_follows 115 = .ok (.iconst 1, 1) := by decide +kernel
theorem dX2_follows_116 : decode cX2_follows 116 = .ok (.goto 4, 3) := by decide +kernel
theorem dX2_follows_119 : decode cX2_follows 119 = .ok (.iconst 0, 1) := by decide +kernel
theorem dX2_follows_120 : decode cX2_follows 120 = .ok (.ireturn, 1) := by decide +kernel
theorem dX2_follows_121 : decode cX2_follows 121 = .ok (.iload_n 1, 1) := by decide +kernel
theorem dX2_follows_122 : decode cX2_follows 122 = .ok (.iconst 5, 1) := by decide +kernel
theorem dX2_follows_123 : decode cX2_follows 123 = .ok (.if_icmp .ne 7, 3) := by decide +kernel
theorem dX2_follows_126 : decode cX2_follows 126 = .ok (.iconst 1, 1) := by decide +kernel
theorem dX2_follows_127 : decode cX2_follows 127 = .ok (.goto 4, 3) := by decide +kernel
theorem dX2_follows_130 : decode cX2_follows 130 = .ok (.iconst 0, 1) := by decide +kernel
theorem dX2_follows_131 : decode cX2_follows 131 = .ok (.ireturn, 1) := by decide +kernel
theorem dX2_follows_132 : decode cX2_follows 132 = .ok (.iload_n 1, 1) := by decide +kernel
theorem dX2_follows_133 : decode cX2_follows 133 = .ok (.iconst 1, 1) := by decide +kernel
theorem dX2_follows_134 : decode cX2_follows 134 = .ok (.if_icmp .eq 9, 3) := by decide +kernel
theorem dX2_follows_137 : decode cX2_follows 137 = .ok (.iload_n 1, 1) := by decide +kernel
theorem dX2_follows_138 : decode cX2_follows 138 = .ok (.bipush 6, 2) := by decide +kernel
theorem dX2_follows_140 : decode cX2_follows 140 = .ok (.if_icmp .ne 7, 3) := by decide +kernel
theorem dX2_follows_143 : decode cX2_follows 143 = .ok (.iconst 1, 1) := by decide +kernel
theorem dX2_follows_144 : decode cX2_follows 144 = .ok (.goto 4, 3) := by decide +kernel
theorem dX2_follows_147 : decode cX2_follows 147 = .ok (.iconst 0, 1) := by decide +kernel
theorem dX2_follows_148 : decode cX2_follows 148 = .ok (.ireturn, 1) := by decide +kernel
theorem dX2_follows_149 : decode cX2_follows 149 = .ok (.iload_n 1, 1) := by decide +kernel
theorem dX2_follows_150 : decode cX2_follows 150 = .ok (.ifCond .eq 14, 3) := by decide +kernel
theorem dX2_follows_153 : decode cX2_follows 153 = .ok (.iload_n 1, 1) := by decide +kernel
theorem dX2_follows_154 : decode cX2_follows 154 = .ok (.iconst 1, 1) := by decide +kernel
theorem dX2_follows_155 : decode cX2_follows 155 = .ok (.if_icmp .eq 9, 3) := by decide +kernel
theorem dX2_follows_158 : decode cX2_follows 158 = .ok (.iload_n 1, 1) := by decide +kernel
theorem dX2_follows_159 : decode cX2_follows 159 = .ok (.bipush 7, 2) := by decide +kernel
theorem dX2_follows_161 : decode cX2_follows 161 = .ok (.if_icmp .ne 7, 3) := by decide +kernel
theorem dX2_follows_164 : decode cX2_follows 164 = .ok (.iconst 1, 1) := by decide +kernel
theorem dX2_follows_165 : decode cX2_follows 165 = .ok (.goto 4, 3) := by decide +kernel
theorem dX2_follows_168 : decode cX2_follows 168 = .ok (.iconst 0, 1) := by decide +kernel
theorem dX2_follows_169 : decode cX2_follows 169 = .ok (.ireturn, 1) := by decide +kernel
theorem dX2_follows_170 : decode cX2_follows 170 = .ok (.iload_n 1, 1) := by decide +kernel
theorem dX2_follows_171 : decode cX2_follows 171 = .ok (.ifCond .eq 9, 3) := by decide +kernel
theorem dX2_follows_174 : decode cX2_follows 174 = .ok (.iload_n 1, 1) := by decide +kernel
theorem dX2_follows_175 : decode cX2_follows 175 = .ok (.bipush 6, 2) := by decide +kernel
theorem dX2_follows_177 : decode cX2_follows 177 = .ok (.if_icmp .ne 7, 3) := by decide +kernel
theorem dX2_follows_180 : decode cX2_follows 180 = .ok (.iconst 1, 1) := by decide +kernel
theorem dX2_follows_181 : decode cX2_follows 181 = .ok (.goto 4, 3) := by decide +kernel
theorem dX2_follows_184 : decode cX2_follows 184 = .ok (.iconst 0, 1) := by decide +kernel
theorem dX2_follows_185 : decode cX2_follows 185 = .ok (.ireturn, 1) := by decide +kernel
theorem dX2_follows_186 : decode cX2_follows 186 = .ok (.iload_n 1, 1) := by decide +kernel
theorem dX2_follows_187 : decode cX2_follows 187 = .ok (.ifCond .eq 9, 3) := by decide +kernel
theorem dX2_follows_190 : decode cX2_follows 190 = .ok (.iload_n 1, 1) := by decide +kernel
theorem dX2_follows_191 : decode cX2_follows 191 = .ok (.bipush 9, 2) := by decide +kernel
theorem dX2_follows_193 : decode cX2_follows 193 = .ok (.if_icmp .ne 7, 3) := by decide +kernel
theorem dX2_follows_196 : decode cX2_follows 196 = .ok (.iconst 1, 1) := by decide +kernel
theorem dX2_follows_197 : decode cX2_follows 197 = .ok (.goto 4, 3) := by decide +kernel
theorem dX2_follows_200 : decode cX2_follows 200 = .ok (.iconst 0, 1) := by decide +kernel
theorem dX2_follows_201 : decode cX2_follows 201 = .ok (.ireturn, 1) := by decide +kernel
theorem dX2_follows_202 : decode cX2_follows 202 = .ok (.iload_n 1, 1) := by decide +kernel
theorem dX2_follows_203 : decode cX2_follows 203 = .ok (.ifCond .eq 9, 3) := by decide +kernel
theorem dX2_follows_206 : decode cX2_follows 206 = .ok (.iload_n 1, 1) := by decide +kernel
theorem dX2_follows_207 : decode cX2_follows 207 = .ok (.bipush 8, 2) := by decide +kernel
theorem dX2_follows_209 : decode cX2_follows 209 = .ok (.if_icmp .ne 7, 3) := by decide +kernel
theorem dX2_follows_212 : decode cX2_follows 212 = .ok (.iconst 1, 1) := by decide +kernel
theorem dX2_follows_213 : decode cX2_follows 213 = .ok (.goto 4, 3) := by decide +kernel
theorem dX2_follows_216 : decode cX2_follows 216 = .ok (.iconst 0, 1) := by decide +kernel
theorem dX2_follows_217 : decode cX2_follows 217 = .ok (.ireturn, 1) := by decide +kernel
theorem dX2_follows_218 : decode cX2_follows 218 = .ok (.iload_n 1, 1) := by decide +kernel
theorem dX2_follows_219 : decode cX2_follows 219 = .ok (.ifCond .eq 9, 3) := by decide +kernel
theorem dX2_follows_222 : decode cX2_follows 222 = .ok (.iload_n 1, 1) := by decide +kernel
theorem dX2_follows_223 : decode cX2_follows 223 = .ok (.bipush 9, 2) := by decide +kernel
theorem dX2_follows_225 : decode cX2_follows 225 = .ok (.if_icmp .ne 7, 3) := by decide +kernel
theorem dX2_follows_228 : decode cX2_follows 228 = .ok (.iconst 1, 1) := by decide +kernel
theorem dX2_follows_229 : decode cX2_follows 229 = .ok (.goto 4, 3) := by decide +kernel
theorem dX2_follows_232 : decode cX2_follows 232 = .ok (.iconst 0, 1) := by decide +kernel
theorem dX2_follows_233 : decode cX2_follows 233 = .ok (.ireturn, 1) := by decide +kernel
theorem dX2_become_0 : decode cX2_become 0 = .ok (.aload_n 0, 1) := by decide +kernel
theorem dX2_become_1 : decode cX2_become 1 = .ok (.aload_n 0, 1) := by decide +kernel
theorem dX2_become_2 : decode cX2_become 2 = .ok (.getfield 19, 3) := by decide +kernel
theorem dX2_become_5 : decode cX2_become 5 = .ok (.iload_n 1, 1) := by decide +kernel
theorem dX2_become_6 : decode cX2_become 6 = .ok (.iaload, 1) := by decide +kernel
theorem dX2_become_7 : decode cX2_become 7 = .ok (.invokevirtual 71, 3) := by decide +kernel
theorem dX2_become_10 : decode cX2_become 10 = .ok (.aload_n 0, 1) := by decide +kernel
theorem dX2_become_11 : decode cX2_become 11 = .ok (.aload_n 0, 1) := by decide +kernel
theorem dX2_become_12 : decode cX2_become 12 = .ok (.getfield 22, 3) := by decide +kernel
theorem dX2_become_15 : decode cX2_become 15 = .ok (.iload_n 1, 1) := by decide +kernel
theorem dX2_become_16 : decode cX2_become 16 = .ok (.iaload, 1) := by decide +kernel
theorem dX2_become_17 : decode cX2_become 17 = .ok (.putfield 65, 3) := by decide +kernel
theorem dX2_become_20 : decode cX2_become 20 = .ok (.aload_n 0, 1) := by decide +kernel
theorem dX2_become_21 : decode cX2_become 21 = .ok (.aload_n 0, 1) := by decide +kernel
theorem dX2_become_22 : decode cX2_become 22 = .ok (.getfield 19, 3) := by decide +kernel
theorem dX2_become_25 : decode cX2_become 25 = .ok (.iload_n 1, 1) := by decide +kernel
theorem dX2_become_26 : decode cX2_become 26 = .ok (.iaload, 1) := by decide +kernel
theorem dX2_become_27 : decode cX2_become 27 = .ok (.putfield 62, 3) := by decide +kernel
theorem dX2_become_30 : decode cX2_become 30 = .ok (.aload_n 0, 1) := by decide +kernel
theorem dX2_become_31 : decode cX2_become 31 = .ok (.getfield 65, 3) := by decide +kernel
theorem dX2_become_34 : decode cX2_become 34 = .ok (.ifCond .ne 13, 3) := by decide +kernel
theorem dX2_become_37 : decode cX2_become 37 = .ok (.aload_n 0, 1) := by decide +kernel
theorem dX2_become_38 : decode cX2_become 38 = .ok (.aload_n 0, 1) := by decide +kernel
theorem dX2_become_39 : decode cX2_become 39 = .ok (.getfield 25, 3) := by decide +kernel
theorem dX2_become_42 : decode cX2_become 42 = .ok (.iload_n 1, 1) := by decide +kernel
theorem dX2_become_43 : decode cX2_become 43 = .ok (.iaload, 1) := by decide +kernel
theorem dX2_become_44 : decode cX2_become 44 = .ok (.putfield 75, 3) := by decide +kernel
theorem dX2_become_47 : decode cX2_become 47 = .ok (.aload_n 0, 1) := by decide +kernel
theorem dX2_become_48 : decode cX2_become 48 = .ok (.getfield 65, 3) := by decide +kernel
theorem dX2_become_51 : decode cX2_become 51 = .ok (.iconst 1, 1) := by decide +kernel
theorem dX2_become_52 : decode cX2_become 52 = .ok (.if_icmp .ne 13, 3) := by decide +kernel
theorem dX2_become_55 : decode cX2_become 55 = .ok (.aload_n 0, 1) := by decide +kernel
theorem dX2_become_56 : decode cX2_become 56 = .ok (.aload_n 0, 1) := by decide +kernel
theorem dX2_become_57 : decode cX2_become 57 = .ok (.getfield 25, 3) := by decide +kernel
theorem dX2_become_60 : decode cX2_become 60 = .ok (.iload_n 1, 1) := by decide +kernel
theorem dX2_become_61 : decode cX2_become 61 = .ok (.iaload, 1) := by decide +kernel
theorem dX2_become_62 : decode cX2_become 62 = .ok (.putfield 78, 3) := by decide +kernel
theorem dX2_become_65 : decode cX2_become 65 = .ok (.aload_n 0, 1) := by decide +kernel
theorem dX2_become_66 : decode cX2_become 66 = .ok (.getfield 65, 3) := by decide +kernel
theorem dX2_become_69 : decode cX2_become 69 = .ok (.iconst 3, 1) := by decide +kernel
theorem dX2_become_70 : decode cX2_become 70 = .ok (.if_icmp .ne 13, 3) := by decide +kernel
theorem dX2_become_73 : decode cX2_become 73 = .ok (.aload_n 0, 1) := by decide +kernel
theorem dX2_become_74 : decode cX2_become 74 = .ok (.iload_n 1, 1) := by decide +kernel
theorem dX2_become_75 : decode cX2_become 75 = .ok (.putfield 81, 3) := by decide +kernel
theorem dX2_become_78 : decode cX2_become 78 = .ok (.aload_n 0, 1) := by decide +kernel
theorem dX2_become_79 : decode cX2_become 79 = .ok (.iconst (-1), 1) := by decide +kernel
theorem dX2_become_80 : decode cX2_become 80 = .ok (.putfield 84, 3) := by decide +kernel
theorem dX2_become_83 : decode cX2_become 83 = .ok (.return_, 1) := by decide +kernel
theorem dX2_spend_0 : decode cX2_spend 0 = .ok (.iload_n 1, 1) := by decide +kernel
theorem dX2_spend_1 : decode cX2_spend 1 = .ok (.aload_n 0, 1) := by decide +kernel
theorem dX2_spend_2 : decode cX2_spend 2 = .ok (.getfield 62, 3) := by decide +kernel
theorem dX2_spend_5 : decode cX2_spend 5 = .ok (.isub, 1) := by decide +kernel
theorem dX2_spend_6 : decode cX2_spend 6 = .ok (.istore_n 2, 1) := by decide +kernel
theorem dX2_spend_7 : decode cX2_spend 7 = .ok (.aload_n 0, 1) := by decide +kernel
theorem dX2_spend_8 : decode cX2_spend 8 = .ok (.getfield 65, 3) := by decide +kernel
theorem dX2_spend_11 : decode cX2_spend 11 = .ok (.iconst 2, 1) := by decide +kernel
theorem dX2_spend_12 : decode cX2_spend 12 = .ok (.if_icmp .eq 12, 3) := by decide +kernel
theorem dX2_spend_15 : decode cX2_spend 15 = .ok (.aload_n 0, 1) := by decide +kernel
theorem dX2_spend_16 : decode cX2_spend 16 = .ok (.getfield 65, 3) := by decide +kernel
theorem dX2_spend_19 : decode cX2_spend 19 = .ok (.bipush 6, 2) := by decide +kernel
theorem dX2_spend_21 : decode cX2_spend 21 = .ok (.if_icmp .ne 13, 3) := by decide +kernel
theorem dX2_spend_24 : decode cX2_spend 24 = .ok (.aload_n 0, 1) := by decide +kernel
theorem dX2_spend_25 : decode cX2_spend 25 = .ok (.dup, 1) := by decide +kernel
theorem dX2_spend_26 : decode cX2_spend 26 = .ok (.getfield 68, 3) := by decide +kernel
theorem dX2_spend_29 : decode cX2_spend 29 = .ok (.iload_n 2, 1) := by decide +kernel
theorem dX2_spend_30 : decode cX2_spend 30 = .ok (.iadd, 1) := by decide +kernel
theorem dX2_spend_31 : decode cX2_spend 31 = .ok (.putfield 68, 3) := by decide +kernel
theorem dX2_spend_34 : decode cX2_spend 34 = .ok (.aload_n 0, 1) := by decide +kernel
theorem dX2_spend_35 : decode cX2_spend 35 = .ok (.getfield 65, 3) := by decide +kernel
theorem dX2_spend_38 : decode cX2_spend 38 = .ok (.ifCond .eq 12, 3) := by decide +kernel
theorem dX2_spend_41 : decode cX2_spend 41 = .ok (.aload_n 0, 1) := by decide +kernel
theorem dX2_spend_42 : decode cX2_spend 42 = .ok (.getfield 65, 3) := by decide +kernel
theorem dX2_spend_45 : decode cX2_spend 45 = .ok (.bipush 6, 2) := by decide +kernel
theorem dX2_spend_47 : decode cX2_spend 47 = .ok (.if_icmp .le 14, 3) := by decide +kernel
theorem dX2_spend_50 : decode cX2_spend 50 = .ok (.iload_n 2, 1) := by decide +kernel
theorem dX2_spend_51 : decode cX2_spend 51 = .ok (.bipush 30, 2) := by decide +kernel
theorem dX2_spend_53 : decode cX2_spend 53 = .ok (.if_icmp .lt 8, 3) := by decide +kernel
theorem dX2_spend_56 : decode cX2_spend 56 = .ok (.aload_n 0, 1) := by decide +kernel
theorem dX2_spend_57 : decode cX2_spend 57 = .ok (.iconst 0, 1) := by decide +kernel
theorem dX2_spend_58 : decode cX2_spend 58 = .ok (.putfield 68, 3) := by decide +kernel
theorem dX2_spend_61 : decode cX2_spend 61 = .ok (.return_, 1) := by decide +kernel
theorem dX2_ahead_0 : decode cX2_ahead 0 = .ok (.iconst 0, 1) := by decide +kernel
theorem dX2_ahead_1 : decode cX2_ahead 1 = .ok (.istore 4, 2) := by decide +kernel
theorem dX2_ahead_3 : decode cX2_ahead 3 = .ok (.iconst 0, 1) := by decide +kernel
theorem dX2_ahead_4 : decode cX2_ahead 4 = .ok (.istore 5, 2) := by decide +kernel
theorem dX2_ahead_6 : decode cX2_ahead 6 = .ok (.iload 5, 2) := by decide +kernel
theorem dX2_ahead_8 : decode cX2_ahead 8 = .ok (.aload_n 0, 1) := by decide +kernel
theorem dX2_ahead_9 : decode cX2_ahead 9 = .ok (.getfield 32, 3) := by decide +kernel
theorem dX2_ahead_12 : decode cX2_ahead 12 = .ok (.if_icmp .ge 115, 3) := by decide +kernel
theorem dX2_ahead_15 : decode cX2_ahead 15 = .ok (.aload_n 0, 1) := by decide +kernel
theorem dX2_ahead_16 : decode cX2_ahead 16 = .ok (.iload 5, 2) := by decide +kernel
theorem dX2_ahead_18 : decode cX2_ahead 18 = .ok (.iload_n 3, 1) := by decide +kernel
theorem dX2_ahead_19 : decode cX2_ahead 19 = .ok (.iconst (-1), 1) := by decide +kernel
theorem dX2_ahead_20 : decode cX2_ahead 20 = .ok (.invokevirtual 119, 3) := by decide +kernel
theorem dX2_ahead_23 : decode cX2_ahead 23 = .ok (.aload_n 0, 1) := by decide +kernel
theorem dX2_ahead_24 : decode cX2_ahead 24 = .ok (.getfield 65, 3) := by decide +kernel
theorem dX2_ahead_27 : decode cX2_ahead 27 = .ok (.iconst 3, 1) := by decide +kernel
theorem dX2_ahead_28 : decode cX2_ahead 28 = .ok (.iconst 5, 1) := by decide +kernel
theorem dX2_ahead_29 : decode cX2_ahead 29 = .ok (.invokestatic 35, 3) := by decide +kernel
theorem dX2_ahead_32 : decode cX2_ahead 32 = .ok (.ifCond .eq 15, 3) := by decide +kernel
theorem dX2_ahead_35 : decode cX2_ahead 35 = .ok (.aload_n 0, 1) := by decide +kernel
theorem dX2_ahead_36 : decode cX2_ahead 36 = .ok (.getfield 78, 3) := by decide +kernel
theorem dX2_ahead_39 : decode cX2_ahead 39 = .ok (.iload_n 1, 1) := by decide +kernel
theorem dX2_ahead_40 : decode cX2_ahead 40 = .ok (.if_icmp .ne 7, 3) := by decide +kernel
theorem dX2_ahead_43 : decode cX2_ahead 43 = .ok (.iconst 1, 1) := by decide +kernel
theorem dX2_ahead_44 : decode cX2_ahead 44 = .ok (.goto 4, 3) := by decide +kernel
theorem dX2_ahead_47 : decode cX2_ahead 47 = .ok (.iconst 0, 1) := by decide +kernel
theorem dX2_ahead_48 : decode cX2_ahead 48 = .ok (.istore 6, 2) := by decide +kernel
theorem dX2_ahead_50 : decode cX2_ahead 50 = .ok (.iload 6, 2) := by decide +kernel
theorem dX2_ahead_52 : decode cX2_ahead 52 = .ok (.ifCond .eq 51, 3) := by decide +kernel
theorem dX2_ahead_55 : decode cX2_ahead 55 = .ok (.aload_n 0, 1) := by decide +kernel
theorem dX2_ahead_56 : decode cX2_ahead 56 = .ok (.getfield 19, 3) := by decide +kernel
theorem dX2_ahead_59 : decode cX2_ahead 59 = .ok (.aload_n 0, 1) := by decide +kernel
theorem dX2_ahead_60 : decode cX2_ahead 60 = .ok (.getfield 81, 3) := by decide +kernel
theorem dX2_ahead_63 : decode cX2_ahead 63 = .ok (.iaload, 1) := by decide +kernel
theorem dX2_ahead_64 : decode cX2_ahead 64 = .ok (.aload_n 0, 1) := by decide +kernel
theorem dX2_ahead_65 : decode cX2_ahead 65 = .ok (.getfield 19, 3) := by decide +kernel
theorem dX2_ahead_68 : decode cX2_ahead 68 = .ok (.iload_n 2, 1) := by decide +kernel
theorem dX2_ahead_69 : decode cX2_ahead 69 = .ok (.iaload, 1) := by decide +kernel
theorem dX2_ahead_70 : decode cX2_ahead 70 = .ok (.if_icmp .lt 29, 3) := by decide +kernel
theorem dX2_ahead_73 : decode cX2_ahead 73 = .ok (.aload_n 0, 1) := by decide +kernel
theorem dX2_ahead_74 : decode cX2_ahead 74 = .ok (.getfield 19, 3) := by decide +kernel
theorem dX2_ahead_77 : decode cX2_ahead 77 = .ok (.aload_n 0, 1) := by decide +kernel
theorem dX2_ahead_78 : decode cX2_ahead 78 = .ok (.getfield 81, 3) := by decide +kernel
theorem dX2_ahead_81 : decode cX2_ahead 81 = .ok (.iaload, 1) := by decide +kernel
theorem dX2_ahead_82 : decode cX2_ahead 82 = .ok (.aload_n 0, 1) := by decide +kernel
theorem dX2_ahead_83 : decode cX2_ahead 83 = .ok (.getfield 19, 3) := by decide +kernel
theorem dX2_ahead_86 : decode cX2_ahead 86 = .ok (.iload_n 2, 1) := by decide +kernel
theorem dX2_ahead_87 : decode cX2_ahead 87 = .ok (.iaload, 1) := by decide +kernel
theorem dX2_ahead_88 : decode cX2_ahead 88 = .ok (.if_icmp .ne 15, 3) := by decide +kernel
theorem dX2_ahead_91 : decode cX2_ahead 91 = .ok (.aload_n 0, 1) := by decide +kernel
theorem dX2_ahead_92 : decode cX2_ahead 92 = .ok (.getfield 81, 3) := by decide +kernel
theorem dX2_ahead_95 : decode cX2_ahead 95 = .ok (.iload_n 2, 1) := by decide +kernel
theorem dX2_ahead_96 : decode cX2_ahead 96 = .ok (.if_icmp .ge 7, 3) := by decide +kernel
theorem dX2_ahead_99 : decode cX2_ahead 99 = .ok (.iconst 1, 1) := by decide +kernel
theorem dX2_ahead_100 : decode cX2_ahead 100 = .ok (.goto 4, 3) := by decide +kernel
theorem dX2_ahead_103 : decode cX2_ahead 103 = .ok (.iconst 0, 1) := by decide +kernel
theorem dX2_ahead_104 : decode cX2_ahead 104 = .ok (.istore 7, 2) := by decide +kernel
theorem dX2_ahead_106 : decode cX2_ahead 106 = .ok (.iload 4, 2) := by decide +kernel
theorem dX2_ahead_108 : decode cX2_ahead 108 = .ok (.iload 7, 2) := by decide +kernel
theorem dX2_ahead_110 : decode cX2_ahead 110 = .ok (.ifCond .eq 7, 3) := by decide +kernel
theorem dX2_ahead_113 : decode cX2_ahead 113 = .ok (.iconst 1, 1) := by decide +kernel
theorem dX2_ahead_114 : decode cX2_ahead 114 = .ok (.goto 4, 3) := by decide +kernel
theorem dX2_ahead_117 : decode cX2_ahead 117 = .ok (.iconst 0, 1) := by decide +kernel
theorem dX2_ahead_118 : decode cX2_ahead 118 = .ok (.iadd, 1) := by decide +kernel
theorem dX2_ahead_119 : decode cX2_ahead 119 = .ok (.istore 4, 2) := by decide +kernel
theorem dX2_ahead_121 : decode cX2_ahead 121 = .ok (.iinc 5 1, 3) := by decide +kernel
theorem dX2_ahead_124 : decode cX2_ahead 124 = .ok (.goto (-118), 3) := by decide +kernel
theorem dX2_ahead_127 : decode cX2_ahead 127 = .ok (.iload 4, 2) := by decide +kernel
theorem dX2_ahead_129 : decode cX2_ahead 129 = .ok (.ireturn, 1) := by decide +kernel
theorem dX2_incidentNow_0 : decode cX2_incidentNow 0 = .ok (.aload_n 0, 1) := by decide +kernel
theorem dX2_incidentNow_1 : decode cX2_incidentNow 1 = .ok (.getfield 65, 3) := by decide +kernel
theorem dX2_incidentNow_4 : decode cX2_incidentNow 4 = .ok (.iconst 1, 1) := by decide +kernel
theorem dX2_incidentNow_5 : decode cX2_incidentNow 5 = .ok (.iconst 5, 1) := by decide +kernel
theorem dX2_incidentNow_6 : decode cX2_incidentNow 6 = .ok (.invokestatic 35, 3) := by decide +kernel
theorem dX2_incidentNow_9 : decode cX2_incidentNow 9 = .ok (.ifCond .eq 10, 3) := by decide +kernel
theorem dX2_incidentNow_12 : decode cX2_incidentNow 12 = .ok (.aload_n 0, 1) := by decide +kernel
theorem dX2_incidentNow_13 : decode cX2_incidentNow 13 = .ok (.getfield 78, 3) := by decide +kernel
theorem dX2_incidentNow_16 : decode cX2_incidentNow 16 = .ok (.goto 4, 3) := by decide +kernel
theorem dX2_incidentNow_19 : decode cX2_incidentNow 19 = .ok (.iconst (-1), 1) := by decide +kernel
theorem dX2_incidentNow_20 : decode cX2_incidentNow 20 = .ok (.ireturn, 1) := by decide +kernel
theorem dX2_place_0 : decode cX2_place 0 = .ok (.aload_n 0, 1) := by decide +kernel
theorem dX2_place_1 : decode cX2_place 1 = .ok (.aload_n 0, 1) := by decide +kernel
theorem dX2_place_2 : decode cX2_place 2 = .ok (.iload_n 1, 1) := by decide +kernel
theorem dX2_place_3 : decode cX2_place 3 = .ok (.invokevirtual 45, 3) := by decide +kernel
theorem dX2_place_6 : decode cX2_place 6 = .ok (.ifCond .ne 7, 3) := by decide +kernel
theorem dX2_place_9 : decode cX2_place 9 = .ok (.iconst 1, 1) := by decide +kernel
theorem dX2_place_10 : decode cX2_place 10 = .ok (.goto 4, 3) := by decide +kernel
theorem dX2_place_13 : decode cX2_place 13 = .ok (.iconst 0, 1) := by decide +kernel
theorem dX2_place_14 : decode cX2_place 14 = .ok (.iload_n 2, 1) := by decide +kernel
theorem dX2_place_15 : decode cX2_place 15 = .ok (.invokestatic 52, 3) := by decide +kernel
theorem dX2_place_18 : decode cX2_place 18 = .ok (.ifCond .ne 7, 3) := by decide +kernel
theorem dX2_place_21 : decode cX2_place 21 = .ok (.iconst 1, 1) := by decide +kernel
theorem dX2_place_22 : decode cX2_place 22 = .ok (.goto 4, 3) := by decide +kernel
theorem dX2_place_25 : decode cX2_place 25 = .ok (.iconst 0, 1) := by decide +kernel
theorem dX2_place_26 : decode cX2_place 26 = .ok (.iconst 0, 1) := by decide +kernel
theorem dX2_place_27 : decode cX2_place 27 = .ok (.invokevirtual 40, 3) := by decide +kernel
theorem dX2_place_30 : decode cX2_place 30 = .ok (.ifCond .eq 5, 3) := by decide +kernel
theorem dX2_place_33 : decode cX2_place 33 = .ok (.iconst 0, 1) := by decide +kernel
theorem dX2_place_34 : decode cX2_place 34 = .ok (.ireturn, 1) := by decide +kernel
theorem dX2_place_35 : decode cX2_place 35 = .ok (.aload_n 0, 1) := by decide +kernel
theorem dX2_place_36 : decode cX2_place 36 = .ok (.iload_n 1, 1) := by decide +kernel
theorem dX2_place_37 : decode cX2_place 37 = .ok (.iload_n 2, 1) := by decide +kernel
theorem dX2_place_38 : decode cX2_place 38 = .ok (.iconst (-1), 1) := by decide +kernel
theorem dX2_place_39 : decode cX2_place 39 = .ok (.invokevirtual 119, 3) := by decide +kernel
theorem dX2_place_42 : decode cX2_place 42 = .ok (.aload_n 0, 1) := by decide +kernel
theorem dX2_place_43 : decode cX2_place 43 = .ok (.getfield 102, 3) := by decide +kernel
theorem dX2_place_46 : decode cX2_place 46 = .ok (.ireturn, 1) := by decide +kernel
theorem dX2_age_0 : decode cX2_age 0 = .ok (.aload_n 0, 1) := by decide +kernel
theorem dX2_age_1 : decode cX2_age 1 = .ok (.aload_n 0, 1) := by decide +kernel
theorem dX2_age_2 : decode cX2_age 2 = .ok (.iload_n 1, 1) := by decide +kernel
theorem dX2_age_3 : decode cX2_age 3 = .ok (.invokevirtual 45, 3) := by decide +kernel
theorem dX2_age_6 : decode cX2_age 6 = .ok (.ifCond .ne 7, 3) := by decide +kernel
theorem dX2_age_9 : decode cX2_age 9 = .ok (.iconst 1, 1) := by decide +kernel
theorem dX2_age_10 : decode cX2_age 10 = .ok (.goto 4, 3) := by decide +kernel
theorem dX2_age_13 : decode cX2_age 13 = .ok (.iconst 0, 1) := by decide +kernel
theorem dX2_age_14 : decode cX2_age 14 = .ok (.iload_n 2, 1) := by decide +kernel
theorem dX2_age_15 : decode cX2_age 15 = .ok (.invokestatic 52, 3) := by decide +kernel
theorem dX2_age_18 : decode cX2_age 18 = .ok (.ifCond .ne 7, 3) := by decide +kernel
theorem dX2_age_21 : decode cX2_age 21 = .ok (.iconst 1, 1) := by decide +kernel
theorem dX2_age_22 : decode cX2_age 22 = .ok (.goto 4, 3) := by decide +kernel
theorem dX2_age_25 : decode cX2_age 25 = .ok (.iconst 0, 1) := by decide +kernel
theorem dX2_age_26 : decode cX2_age 26 = .ok (.iconst 0, 1) := by decide +kernel
theorem dX2_age_27 : decode cX2_age 27 = .ok (.invokevirtual 40, 3) := by decide +kernel
theorem dX2_age_30 : decode cX2_age 30 = .ok (.ifCond .eq 5, 3) := by decide +kernel
theorem dX2_age_33 : decode cX2_age 33 = .ok (.iconst 0, 1) := by decide +kernel
theorem dX2_age_34 : decode cX2_age 34 = .ok (.ireturn, 1) := by decide +kernel
theorem dX2_age_35 : decode cX2_age 35 = .ok (.aload_n 0, 1) := by decide +kernel
theorem dX2_age_36 : decode cX2_age 36 = .ok (.iload_n 1, 1) := by decide +kernel
theorem dX2_age_37 : decode cX2_age 37 = .ok (.iload_n 2, 1) := by decide +kernel
theorem dX2_age_38 : decode cX2_age 38 = .ok (.iconst (-1), 1) := by decide +kernel
theorem dX2_age_39 : decode cX2_age 39 = .ok (.invokevirtual 119, 3) := by decide +kernel
theorem dX2_age_42 : decode cX2_age 42 = .ok (.aload_n 0, 1) := by decide +kernel
theorem dX2_age_43 : decode cX2_age 43 = .ok (.getfield 102, 3) := by decide +kernel
theorem dX2_age_46 : decode cX2_age 46 = .ok (.ifCond .ge 7, 3) := by decide +kernel
theorem dX2_age_49 : decode cX2_age 49 = .ok (.iconst (-1), 1) := by decide +kernel
theorem dX2_age_50 : decode cX2_age 50 = .ok (.goto 9, 3) := by decide +kernel
theorem dX2_age_53 : decode cX2_age 53 = .ok (.iload_n 2, 1) := by decide +kernel
theorem dX2_age_54 : decode cX2_age 54 = .ok (.aload_n 0, 1) := by decide +kernel
theorem dX2_age_55 : decode cX2_age 55 = .ok (.getfield 105, 3) := by decide +kernel
theorem dX2_age_58 : decode cX2_age 58 = .ok (.isub, 1) := by decide +kernel
theorem dX2_age_59 : decode cX2_age 59 = .ok (.ireturn, 1) := by decide +kernel
theorem dX2_expected_0 : decode cX2_expected 0 = .ok (.aload_n 0, 1) := by decide +kernel
theorem dX2_expected_1 : decode cX2_expected 1 = .ok (.aload_n 0, 1) := by decide +kernel
theorem dX2_expected_2 : decode cX2_expected 2 = .ok (.iload_n 1, 1) := by decide +kernel
theorem dX2_expected_3 : decode cX2_expected 3 = .ok (.invokevirtual 45, 3) := by decide +kernel
theorem dX2_expected_6 : decode cX2_expected 6 = .ok (.ifCond .ne 7, 3) := by decide +kernel
theorem dX2_expected_9 : decode cX2_expected 9 = .ok (.iconst 1, 1) := by decide +kernel
theorem dX2_expected_10 : decode cX2_expected 10 = .ok (.goto 4, 3) := by decide +kernel
theorem dX2_expected_13 : decode cX2_expected 13 = .ok (.iconst 0, 1) := by decide +kernel
theorem dX2_expected_14 : decode cX2_expected 14 = .ok (.iload_n 2, 1) := by decide +kernel
theorem dX2_expected_15 : decode cX2_expected 15 = .ok (.invokestatic 52, 3) := by decide +kernel
theorem dX2_expected_18 : decode cX2_expected 18 = .ok (.ifCond .ne 7, 3) := by decide +kernel
theorem dX2_expected_21 : decode cX2_expected 21 = .ok (.iconst 1, 1) := by decide +kernel
theorem dX2_expected_22 : decode cX2_expected 22 = .ok (.goto 4, 3) := by decide +kernel
theorem dX2_expected_25 : decode cX2_expected 25 = .ok (.iconst 0, 1) := by decide +kernel
theorem dX2_expected_26 : decode cX2_expected 26 = .ok (.iconst 0, 1) := by decide +kernel
theorem dX2_expected_27 : decode cX2_expected 27 = .ok (.invokevirtual 40, 3) := by decide +kernel
theorem dX2_expected_30 : decode cX2_expected 30 = .ok (.ifCond .eq 5, 3) := by decide +kernel
theorem dX2_expected_33 : decode cX2_expected 33 = .ok (.iconst 0, 1) := by decide +kernel
theorem dX2_expected_34 : decode cX2_expected 34 = .ok (.ireturn, 1) := by decide +kernel
theorem dX2_expected_35 : decode cX2_expected 35 = .ok (.aload_n 0, 1) := by decide +kernel
theorem dX2_expected_36 : decode cX2_expected 36 = .ok (.iload_n 1, 1) := by decide +kernel
theorem dX2_expected_37 : decode cX2_expected 37 = .ok (.iload_n 2, 1) := by decide +kernel
theorem dX2_expected_38 : decode cX2_expected 38 = .ok (.iconst (-1), 1) := by decide +kernel
theorem dX2_expected_39 : decode cX2_expected 39 = .ok (.invokevirtual 119, 3) := by decide +kernel
theorem dX2_expected_42 : decode cX2_expected 42 = .ok (.aload_n 0, 1) := by decide +kernel
theorem dX2_expected_43 : decode cX2_expected 43 = .ok (.getfield 84, 3) := by decide +kernel
theorem dX2_expected_46 : decode cX2_expected 46 = .ok (.ireturn, 1) := by decide +kernel
theorem dX2_wrong_0 : decode cX2_wrong 0 = .ok (.aload_n 0, 1) := by decide +kernel
theorem dX2_wrong_1 : decode cX2_wrong 1 = .ok (.iload_n 1, 1) := by decide +kernel
theorem dX2_wrong_2 : decode cX2_wrong 2 = .ok (.iconst 0, 1) := by decide +kernel
theorem dX2_wrong_3 : decode cX2_wrong 3 = .ok (.aload_n 0, 1) := by decide +kernel
theorem dX2_wrong_4 : decode cX2_wrong 4 = .ok (.getfield 59, 3) := by decide +kernel
theorem dX2_wrong_7 : decode cX2_wrong 7 = .ok (.iconst 1, 1) := by decide +kernel
theorem dX2_wrong_8 : decode cX2_wrong 8 = .ok (.isub, 1) := by decide +kernel
theorem dX2_wrong_9 : decode cX2_wrong 9 = .ok (.invokestatic 35, 3) := by decide +kernel
theorem dX2_wrong_12 : decode cX2_wrong 12 = .ok (.ifCond .ne 7, 3) := by decide +kernel
theorem dX2_wrong_15 : decode cX2_wrong 15 = .ok (.iconst 1, 1) := by decide +kernel
theorem dX2_wrong_16 : decode cX2_wrong 16 = .ok (.goto 4, 3) := by decide +kernel
theorem dX2_wrong_19 : decode cX2_wrong 19 = .ok (.iconst 0, 1) := by decide +kernel
theorem dX2_wrong_20 : decode cX2_wrong 20 = .ok (.iconst 0, 1) := by decide +kernel
theorem dX2_wrong_21 : decode cX2_wrong 21 = .ok (.iconst 0, 1) := by decide +kernel
theorem dX2_wrong_22 : decode cX2_wrong 22 = .ok (.invokevirtual 40, 3) := by decide +kernel
theorem dX2_wrong_25 : decode cX2_wrong 25 = .ok (.ifCond .eq 5, 3) := by decide +kernel
theorem dX2_wrong_28 : decode cX2_wrong 28 = .ok (.iconst 0, 1) := by decide +kernel
theorem dX2_wrong_29 : decode cX2_wrong 29 = .ok (.ireturn, 1) := by decide +kernel
theorem dX2_wrong_30 : decode cX2_wrong 30 = .ok (.aload_n 0, 1) := by decide +kernel
theorem dX2_wrong_31 : decode cX2_wrong 31 = .ok (.iload_n 1, 1) := by decide +kernel
theorem dX2_wrong_32 : decode cX2_wrong 32 = .ok (.invokevirtual 134, 3) := by decide +kernel
theorem dX2_wrong_35 : decode cX2_wrong 35 = .ok (.ireturn, 1) := by decide +kernel
theorem dX2_saidOf_0 : decode cX2_saidOf 0 = .ok (.aload_n 0, 1) := by decide +kernel
theorem dX2_saidOf_1 : decode cX2_saidOf 1 = .ok (.aload_n 0, 1) := by decide +kernel
theorem dX2_saidOf_2 : decode cX2_saidOf 2 = .ok (.getfield 16, 3) := by decide +kernel
theorem dX2_saidOf_5 : decode cX2_saidOf 5 = .ok (.iload_n 1, 1) := by decide +kernel
theorem dX2_saidOf_6 : decode cX2_saidOf 6 = .ok (.iaload, 1) := by decide +kernel
theorem dX2_saidOf_7 : decode cX2_saidOf 7 = .ok (.ldc 39, 2) := by decide +kernel
theorem dX2_saidOf_9 : decode cX2_saidOf 9 = .ok (.iload_n 1, 1) := by decide +kernel
theorem dX2_saidOf_10 : decode cX2_saidOf 10 = .ok (.invokevirtual 119, 3) := by decide +kernel
theorem dX2_saidOf_13 : decode cX2_saidOf 13 = .ok (.aload_n 0, 1) := by decide +kernel
theorem dX2_saidOf_14 : decode cX2_saidOf 14 = .ok (.getfield 87, 3) := by decide +kernel
theorem dX2_saidOf_17 : decode cX2_saidOf 17 = .ok (.ireturn, 1) := by decide +kernel
theorem dX2_told_0 : decode cX2_told 0 = .ok (.aload_n 0, 1) := by decide +kernel
theorem dX2_told_1 : decode cX2_told 1 = .ok (.iload_n 1, 1) := by decide +kernel
theorem dX2_told_2 : decode cX2_told 2 = .ok (.iconst 0, 1) := by decide +kernel
theorem dX2_told_3 : decode cX2_told 3 = .ok (.bipush 6, 2) := by decide +kernel
theorem dX2_told_5 : decode cX2_told 5 = .ok (.invokestatic 35, 3) := by decide +kernel
theorem dX2_told_8 : decode cX2_told 8 = .ok (.ifCond .ne 7, 3) := by decide +kernel
theorem dX2_told_11 : decode cX2_told 11 = .ok (.iconst 1, 1) := by decide +kernel
theorem dX2_told_12 : decode cX2_told 12 = .ok (.goto 4, 3) := by decide +kernel
theorem dX2_told_15 : decode cX2_told 15 = .ok (.iconst 0, 1) := by decide +kernel
theorem dX2_told_16 : decode cX2_told 16 = .ok (.iconst 0, 1) := by decide +kernel
theorem dX2_told_17 : decode cX2_told 17 = .ok (.iconst 0, 1) := by decide +kernel
theorem dX2_told_18 : decode cX2_told 18 = .ok (.invokevirtual 40, 3) := by decide +kernel
theorem dX2_told_21 : decode cX2_told 21 = .ok (.ifCond .eq 5, 3) := by decide +kernel
theorem dX2_told_24 : decode cX2_told 24 = .ok (.iconst 0, 1) := by decide +kernel
theorem dX2_told_25 : decode cX2_told 25 = .ok (.ireturn, 1) := by decide +kernel
theorem dX2_told_26 : decode cX2_told 26 = .ok (.iload_n 1, 1) := by decide +kernel
theorem dX2_told_27 : decode cX2_told 27 = .ok (.ifCond .ne 8, 3) := by decide +kernel
theorem dX2_told_30 : decode cX2_told 30 = .ok (.aload_n 0, 1) := by decide +kernel
theorem dX2_told_31 : decode cX2_told 31 = .ok (.getfield 49, 3) := by decide +kernel
theorem dX2_told_34 : decode cX2_told 34 = .ok (.ireturn, 1) := by decide +kernel
theorem dX2_told_35 : decode cX2_told 35 = .ok (.iload_n 1, 1) := by decide +kernel
theorem dX2_told_36 : decode cX2_told 36 = .ok (.iconst 4, 1) := by decide +kernel
theorem dX2_told_37 : decode cX2_told 37 = .ok (.if_icmp .le 20, 3) := by decide +kernel
theorem dX2_told_40 : decode cX2_told 40 = .ok (.iload_n 1, 1) := by decide +kernel
theorem dX2_told_41 : decode cX2_told 41 = .ok (.iconst 5, 1) := by decide +kernel
theorem dX2_told_42 : decode cX2_told 42 = .ok (.if_icmp .ne 10, 3) := by decide +kernel
theorem dX2_told_45 : decode cX2_told 45 = .ok (.aload_n 0, 1) := by decide +kernel
theorem dX2_told_46 : decode cX2_told 46 = .ok (.getfield 59, 3) := by decide +kernel
theorem dX2_told_49 : decode cX2_told 49 = .ok (.goto 7, 3) := by decide +kernel
theorem dX2_told_52 : decode cX2_told 52 = .ok (.aload_n 0, 1) := by decide +kernel
theorem dX2_told_53 : decode cX2_told 53 = .ok (.getfield 32, 3) := by decide +kernel
theorem dX2_told_56 : decode cX2_told 56 = .ok (.ireturn, 1) := by decide +kernel
theorem dX2_told_57 : decode cX2_told 57 = .ok (.iconst 0, 1) := by decide +kernel
theorem dX2_told_58 : decode cX2_told 58 = .ok (.istore_n 2, 1) := by decide +kernel
theorem dX2_told_59 : decode cX2_told 59 = .ok (.iconst 0, 1) := by decide +kernel
theorem dX2_told_60 : decode cX2_told 60 = .ok (.istore_n 3, 1) := by decide +kernel
theorem dX2_told_61 : decode cX2_told 61 = .ok (.iload_n 3, 1) := by decide +kernel
theorem dX2_told_62 : decode cX2_told 62 = .ok (.aload_n 0, 1) := by decide +kernel
theorem dX2_told_63 : decode cX2_told 63 = .ok (.getfield 59, 3) := by decide +kernel
theorem dX2_told_66 : decode cX2_told 66 = .ok (.if_icmp .ge 26, 3) := by decide +kernel
theorem dX2_told_69 : decode cX2_told 69 = .ok (.iload_n 2, 1) := by decide +kernel
theorem dX2_told_70 : decode cX2_told 70 = .ok (.aload_n 0, 1) := by decide +kernel
theorem dX2_told_71 : decode cX2_told 71 = .ok (.iload_n 3, 1) := by decide +kernel
theorem dX2_told_72 : decode cX2_told 72 = .ok (.invokevirtual 134, 3) := by decide +kernel
theorem dX2_told_75 : decode cX2_told 75 = .ok (.iload_n 1, 1) := by decide +kernel
theorem dX2_told_76 : decode cX2_told 76 = .ok (.if_icmp .ne 7, 3) := by decide +kernel
theorem dX2_told_79 : decode cX2_told 79 = .ok (.iconst 1, 1) := by decide +kernel
theorem dX2_told_80 : decode cX2_told 80 = .ok (.goto 4, 3) := by decide +kernel
theorem dX2_told_83 : decode cX2_told 83 = .ok (.iconst 0, 1) := by decide +kernel
theorem dX2_told_84 : decode cX2_told 84 = .ok (.iadd, 1) := by decide +kernel
theorem dX2_told_85 : decode cX2_told 85 = .ok (.istore_n 2, 1) := by decide +kernel
theorem dX2_told_86 : decode cX2_told 86 = .ok (.iinc 3 1, 3) := by decide +kernel
theorem dX2_told_89 : decode cX2_told 89 = .ok (.goto (-28), 3) := by decide +kernel
theorem dX2_told_92 : decode cX2_told 92 = .ok (.iload_n 2, 1) := by decide +kernel
theorem dX2_told_93 : decode cX2_told 93 = .ok (.ireturn, 1) := by decide +kernel
theorem dX2_many_0 : decode cX2_many 0 = .ok (.aload_n 0, 1) := by decide +kernel
theorem dX2_many_1 : decode cX2_many 1 = .ok (.iload_n 1, 1) := by decide +kernel
theorem dX2_many_2 : decode cX2_many 2 = .ok (.iconst 0, 1) := by decide +kernel
theorem dX2_many_3 : decode cX2_many 3 = .ok (.bipush 10, 2) := by decide +kernel
theorem dX2_many_5 : decode cX2_many 5 = .ok (.invokestatic 35, 3) := by decide +kernel
theorem dX2_many_8 : decode cX2_many 8 = .ok (.ifCond .ne 7, 3) := by decide +kernel
theorem dX2_many_11 : decode cX2_many 11 = .ok (.iconst 1, 1) := by decide +kernel
theorem dX2_many_12 : decode cX2_many 12 = .ok (.goto 4, 3) := by decide +kernel
theorem dX2_many_15 : decode cX2_many 15 = .ok (.iconst 0, 1) := by decide +kernel
theorem dX2_many_16 : decode cX2_many 16 = .ok (.iload_n 2, 1) := by decide +kernel
theorem dX2_many_17 : decode cX2_many 17 = .ok (.invokestatic 52, 3) := by decide +kernel
theorem dX2_many_20 : decode cX2_many 20 = .ok (.ifCond .ne 7, 3) := by decide +kernel
theorem dX2_many_23 : decode cX2_many 23 = .ok (.iconst 1, 1) := by decide +kernel
theorem dX2_many_24 : decode cX2_many 24 = .ok (.goto 4, 3) := by decide +kernel
theorem dX2_many_27 : decode cX2_many 27 = .ok (.iconst 0, 1) := by decide +kernel
theorem dX2_many_28 : decode cX2_many 28 = .ok (.iconst 0, 1) := by decide +kernel
theorem dX2_many_29 : decode cX2_many 29 = .ok (.invokevirtual 40, 3) := by decide +kernel
theorem dX2_many_32 : decode cX2_many 32 = .ok (.ifCond .eq 5, 3) := by decide +kernel
theorem dX2_many_35 : decode cX2_many 35 = .ok (.iconst 0, 1) := by decide +kernel
theorem dX2_many_36 : decode cX2_many 36 = .ok (.ireturn, 1) := by decide +kernel
theorem dX2_many_37 : decode cX2_many 37 = .ok (.iconst 0, 1) := by decide +kernel
theorem dX2_many_38 : decode cX2_many 38 = .ok (.istore_n 3, 1) := by decide +kernel
theorem dX2_many_39 : decode cX2_many 39 = .ok (.iconst 0, 1) := by decide +kernel
theorem dX2_many_40 : decode cX2_many 40 = .ok (.istore 4, 2) := by decide +kernel
theorem dX2_many_42 : decode cX2_many 42 = .ok (.iload 4, 2) := by decide +kernel
theorem dX2_many_44 : decode cX2_many 44 = .ok (.aload_n 0, 1) := by decide +kernel
theorem dX2_many_45 : decode cX2_many 45 = .ok (.getfield 32, 3) := by decide +kernel
theorem dX2_many_48 : decode cX2_many 48 = .ok (.if_icmp .ge 33, 3) := by decide +kernel
theorem dX2_many_51 : decode cX2_many 51 = .ok (.aload_n 0, 1) := by decide +kernel
theorem dX2_many_52 : decode cX2_many 52 = .ok (.iload 4, 2) := by decide +kernel
theorem dX2_many_54 : decode cX2_many 54 = .ok (.iload_n 2, 1) := by decide +kernel
theorem dX2_many_55 : decode cX2_many 55 = .ok (.iconst (-1), 1) := by decide +kernel
theorem dX2_many_56 : decode cX2_many 56 = .ok (.invokevirtual 119, 3) := by decide +kernel
theorem dX2_many_59 : decode cX2_many 59 = .ok (.iload_n 3, 1) := by decide +kernel
theorem dX2_many_60 : decode cX2_many 60 = .ok (.aload_n 0, 1) := by decide +kernel
theorem dX2_many_61 : decode cX2_many 61 = .ok (.getfield 65, 3) := by decide +kernel
theorem dX2_many_64 : decode cX2_many 64 = .ok (.iload_n 1, 1) := by decide +kernel
theorem dX2_many_65 : decode cX2_many 65 = .ok (.if_icmp .ne 7, 3) := by decide +kernel
theorem dX2_many_68 : decode cX2_many 68 = .ok (.iconst 1, 1) := by decide +kernel
theorem dX2_many_69 : decode cX2_many 69 = .ok (.goto 4, 3) := by decide +kernel
theorem dX2_many_72 : decode cX2_many 72 = .ok (.iconst 0, 1) := by decide +kernel
theorem dX2_many_73 : decode cX2_many 73 = .ok (.iadd, 1) := by decide +kernel
theorem dX2_many_74 : decode cX2_many 74 = .ok (.istore_n 3, 1) := by decide +kernel
theorem dX2_many_75 : decode cX2_many 75 = .ok (.iinc 4 1, 3) := by decide +kernel
theorem dX2_many_78 : decode cX2_many 78 = .ok (.goto (-36), 3) := by decide +kernel
theorem dX2_many_81 : decode cX2_many 81 = .ok (.iload_n 3, 1) := by decide +kernel
theorem dX2_many_82 : decode cX2_many 82 = .ok (.ireturn, 1) := by decide +kernel
theorem dX2_arrived_0 : decode cX2_arrived 0 = .ok (.aload_n 0, 1) := by decide +kernel
theorem dX2_arrived_1 : decode cX2_arrived 1 = .ok (.iload_n 1, 1) := by decide +kernel
theorem dX2_arrived_2 : decode cX2_arrived 2 = .ok (.iconst 0, 1) := by decide +kernel
theorem dX2_arrived_3 : decode cX2_arrived 3 = .ok (.bipush 19, 2) := by decide +kernel
theorem dX2_arrived_5 : decode cX2_arrived 5 = .ok (.invokestatic 35, 3) := by decide +kernel
theorem dX2_arrived_8 : decode cX2_arrived 8 = .ok (.ifCond .ne 7, 3) := by decide +kernel
theorem dX2_arrived_11 : decode cX2_arrived 11 = .ok (.iconst 1, 1) := by decide +kernel
theorem dX2_arrived_12 : decode cX2_arrived 12 = .ok (.goto 4, 3) := by decide +kernel
theorem dX2_arrived_15 : decode cX2_arrived 15 = .ok (.iconst 0, 1) := by decide +kernel
theorem dX2_arrived_16 : decode cX2_arrived 16 = .ok (.iload_n 2, 1) := by decide +kernel
theorem dX2_arrived_17 : decode cX2_arrived 17 = .ok (.iconst 1, 1) := by decide +kernel
theorem dX2_arrived_18 : decode cX2_arrived 18 = .ok (.if_icmp .lt 10, 3) := by decide +kernel
theorem dX2_arrived_21 : decode cX2_arrived 21 = .ok (.iload_n 3, 1) := by decide +kernel
theorem dX2_arrived_22 : decode cX2_arrived 22 = .ok (.invokestatic 52, 3) := by decide +kernel
theorem dX2_arrived_25 : decode cX2_arrived 25 = .ok (.ifCond .ne 7, 3) := by decide +kernel
theorem dX2_arrived_28 : decode cX2_arrived 28 = .ok (.iconst 1, 1) := by decide +kernel
theorem dX2_arrived_29 : decode cX2_arrived 29 = .ok (.goto 4, 3) := by decide +kernel
theorem dX2_arrived_32 : decode cX2_arrived 32 = .ok (.iconst 0, 1) := by decide +kernel
theorem dX2_arrived_33 : decode cX2_arrived 33 = .ok (.iconst 0, 1) := by decide +kernel
theorem dX2_arrived_34 : decode cX2_arrived 34 = .ok (.invokevirtual 40, 3) := by decide +kernel
theorem dX2_arrived_37 : decode cX2_arrived 37 = .ok (.ifCond .eq 5, 3) := by decide +kernel
theorem dX2_arrived_40 : decode cX2_arrived 40 = .ok (.iconst 0, 1) := by decide +kernel
theorem dX2_arrived_41 : decode cX2_arrived 41 = .ok (.ireturn, 1) := by decide +kernel
theorem dX2_arrived_42 : decode cX2_arrived 42 = .ok (.iconst 0, 1) := by decide +kernel
theorem dX2_arrived_43 : decode cX2_arrived 43 = .ok (.istore 4, 2) := by decide +kernel
theorem dX2_arrived_45 : decode cX2_arrived 45 = .ok (.iload 4, 2) := by decide +kernel
theorem dX2_arrived_47 : decode cX2_arrived 47 = .ok (.aload_n 0, 1) := by decide +kernel
theorem dX2_arrived_48 : decode cX2_arrived 48 = .ok (.getfield 32, 3) := by decide +kernel
theorem dX2_arrived_51 : decode cX2_arrived 51 = .ok (.if_icmp .ge 68, 3) := by decide +kernel
theorem dX2_arrived_54 : decode cX2_arrived 54 = .ok (.aload_n 0, 1) := by decide +kernel
theorem dX2_arrived_55 : decode cX2_arrived 55 = .ok (.iload 4, 2) := by decide +kernel
theorem dX2_arrived_57 : decode cX2_arrived 57 = .ok (.iload_n 3, 1) := by decide +kernel
theorem dX2_arrived_58 : decode cX2_arrived 58 = .ok (.iconst (-1), 1) := by decide +kernel
theorem dX2_arrived_59 : decode cX2_arrived 59 = .ok (.invokevirtual 119, 3) := by decide +kernel
theorem dX2_arrived_62 : decode cX2_arrived 62 = .ok (.aload_n 0, 1) := by decide +kernel
theorem dX2_arrived_63 : decode cX2_arrived 63 = .ok (.getfield 65, 3) := by decide +kernel
theorem dX2_arrived_66 : decode cX2_arrived 66 = .ok (.iconst 3, 1) := by decide +kernel
theorem dX2_arrived_67 : decode cX2_arrived 67 = .ok (.iconst 5, 1) := by decide +kernel
theorem dX2_arrived_68 : decode cX2_arrived 68 = .ok (.invokestatic 35, 3) := by decide +kernel
theorem dX2_arrived_71 : decode cX2_arrived 71 = .ok (.ifCond .eq 15, 3) := by decide +kernel
theorem dX2_arrived_74 : decode cX2_arrived 74 = .ok (.aload_n 0, 1) := by decide +kernel
theorem dX2_arrived_75 : decode cX2_arrived 75 = .ok (.getfield 78, 3) := by decide +kernel
theorem dX2_arrived_78 : decode cX2_arrived 78 = .ok (.iload_n 1, 1) := by decide +kernel
theorem dX2_arrived_79 : decode cX2_arrived 79 = .ok (.if_icmp .ne 7, 3) := by decide +kernel
theorem dX2_arrived_82 : decode cX2_arrived 82 = .ok (.iconst 1, 1) := by decide +kernel
theorem dX2_arrived_83 : decode cX2_arrived 83 = .ok (.goto 4, 3) := by decide +kernel
theorem dX2_arrived_86 : decode cX2_arrived 86 = .ok (.iconst 0, 1) := by decide +kernel
theorem dX2_arrived_87 : decode cX2_arrived 87 = .ok (.istore 5, 2) := by decide +kernel
theorem dX2_arrived_89 : decode cX2_arrived 89 = .ok (.iload 5, 2) := by decide +kernel
theorem dX2_arrived_91 : decode cX2_arrived 91 = .ok (.ifCond .eq 22, 3) := by decide +kernel
theorem dX2_arrived_94 : decode cX2_arrived 94 = .ok (.aload_n 0, 1) := by decide +kernel
theorem dX2_arrived_95 : decode cX2_arrived 95 = .ok (.iload_n 1, 1) := by decide +kernel
theorem dX2_arrived_96 : decode cX2_arrived 96 = .ok (.aload_n 0, 1) := by decide +kernel
theorem dX2_arrived_97 : decode cX2_arrived 97 = .ok (.getfield 81, 3) := by decide +kernel
theorem dX2_arrived_100 : decode cX2_arrived 100 = .ok (.iload_n 3, 1) := by decide +kernel
theorem dX2_arrived_101 : decode cX2_arrived 101 = .ok (.invokevirtual 123, 3) := by decide +kernel
theorem dX2_arrived_104 : decode cX2_arrived 104 = .ok (.iload_n 2, 1) := by decide +kernel
theorem dX2_arrived_105 : decode cX2_arrived 105 = .ok (.iconst 1, 1) := by decide +kernel
theorem dX2_arrived_106 : decode cX2_arrived 106 = .ok (.isub, 1) := by decide +kernel
theorem dX2_arrived_107 : decode cX2_arrived 107 = .ok (.if_icmp .ne 6, 3) := by decide +kernel
theorem dX2_arrived_110 : decode cX2_arrived 110 = .ok (.iload 4, 2) := by decide +kernel
theorem dX2_arrived_112 : decode cX2_arrived 112 = .ok (.ireturn, 1) := by decide +kernel
theorem dX2_arrived_113 : decode cX2_arrived 113 = .ok (.iinc 4 1, 3) := by decide +kernel
theorem dX2_arrived_116 : decode cX2_arrived 116 = .ok (.goto (-71), 3) := by decide +kernel
theorem dX2_arrived_119 : decode cX2_arrived 119 = .ok (.iconst (-1), 1) := by decide +kernel
theorem dX2_arrived_120 : decode cX2_arrived 120 = .ok (.ireturn, 1) := by decide +kernel
