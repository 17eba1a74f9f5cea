theorem dL_refuses_449 : decode cL_refuses 449 = .ok (.ldc 28, 2) := by decide +kernel
theorem dL_refuses_451 : decode cL_refuses 451 = .ok (.if_icmp .ne 123, 3) := by decide +kernel
theorem dL_refuses_454 : decode cL_refuses 454 = .ok (.aload_n 0, 1) := by decide +kernel
theorem dL_refuses_455 : decode cL_refuses 455 = .ok (.iconst (-1), 1) := by decide +kernel
theorem dL_refuses_456 : decode cL_refuses 456 = .ok (.iload_n 1, 1) := by decide +kernel
theorem dL_refuses_457 : decode cL_refuses 457 = .ok (.isub, 1) := by decide +kernel
theorem dL_refuses_458 : decode cL_refuses 458 = .ok (.iconst 0, 1) := by decide +kernel
theorem dL_refuses_459 : decode cL_refuses 459 = .ok (.invokestatic 117, 3) := by decide +kernel
theorem dL_refuses_462 : decode cL_refuses 462 = .ok (.ldc 28, 2) := by decide +kernel
theorem dL_refuses_464 : decode cL_refuses 464 = .ok (.if_icmp .ne 110, 3) := by decide +kernel
theorem dL_refuses_467 : decode cL_refuses 467 = .ok (.aload_n 0, 1) := by decide +kernel
theorem dL_refuses_468 : decode cL_refuses 468 = .ok (.iconst 0, 1) := by decide +kernel
theorem dL_refuses_469 : decode cL_refuses 469 = .ok (.iconst (-1), 1) := by decide +kernel
theorem dL_refuses_470 : decode cL_refuses 470 = .ok (.invokestatic 117, 3) := by decide +kernel
theorem dL_refuses_473 : decode cL_refuses 473 = .ok (.ldc 28, 2) := by decide +kernel
theorem dL_refuses_475 : decode cL_refuses 475 = .ok (.if_icmp .ne 99, 3) := by decide +kernel
theorem dL_refuses_478 : decode cL_refuses 478 = .ok (.aload_n 0, 1) := by decide +kernel
theorem dL_refuses_479 : decode cL_refuses 479 = .ok (.bipush 10, 2) := by decide +kernel
theorem dL_refuses_481 : decode cL_refuses 481 = .ok (.iload_n 1, 1) := by decide +kernel
theorem dL_refuses_482 : decode cL_refuses 482 = .ok (.iadd, 1) := by decide +kernel
theorem dL_refuses_483 : decode cL_refuses 483 = .ok (.invokestatic 120, 3) := by decide +kernel
theorem dL_refuses_486 : decode cL_refuses 486 = .ok (.ldc 28, 2) := by decide +kernel
theorem dL_refuses_488 : decode cL_refuses 488 = .ok (.if_icmp .ne 86, 3) := by decide +kernel
theorem dL_refuses_491 : decode cL_refuses 491 = .ok (.aload_n 0, 1) := by decide +kernel
theorem dL_refuses_492 : decode cL_refuses 492 = .ok (.iconst (-1), 1) := by decide +kernel
theorem dL_refuses_493 : decode cL_refuses 493 = .ok (.iload_n 1, 1) := by decide +kernel
theorem dL_refuses_494 : decode cL_refuses 494 = .ok (.isub, 1) := by decide +kernel
theorem dL_refuses_495 : decode cL_refuses 495 = .ok (.invokestatic 123, 3) := by decide +kernel
theorem dL_refuses_498 : decode cL_refuses 498 = .ok (.ldc 28, 2) := by decide +kernel
theorem dL_refuses_500 : decode cL_refuses 500 = .ok (.if_icmp .ne 74, 3) := by decide +kernel
theorem dL_refuses_503 : decode cL_refuses 503 = .ok (.aload_n 0, 1) := by decide +kernel
theorem dL_refuses_504 : decode cL_refuses 504 = .ok (.bipush 10, 2) := by decide +kernel
theorem dL_refuses_506 : decode cL_refuses 506 = .ok (.iload_n 1, 1) := by decide +kernel
theorem dL_refuses_507 : decode cL_refuses 507 = .ok (.iadd, 1) := by decide +kernel
theorem dL_refuses_508 : decode cL_refuses 508 = .ok (.iload_n 3, 1) := by decide +kernel
theorem dL_refuses_509 : decode cL_refuses 509 = .ok (.iload_n 3, 1) := by decide +kernel
theorem dL_refuses_510 : decode cL_refuses 510 = .ok (.invokestatic 126, 3) := by decide +kernel
theorem dL_refuses_513 : decode cL_refuses 513 = .ok (.ldc 28, 2) := by decide +kernel
theorem dL_refuses_515 : decode cL_refuses 515 = .ok (.if_icmp .ne 59, 3) := by decide +kernel
theorem dL_refuses_518 : decode cL_refuses 518 = .ok (.aload_n 0, 1) := by decide +kernel
theorem dL_refuses_519 : decode cL_refuses 519 = .ok (.iload_n 1, 1) := by decide +kernel
theorem dL_refuses_520 : decode cL_refuses 520 = .ok (.bipush 10, 2) := by decide +kernel
theorem dL_refuses_522 : decode cL_refuses 522 = .ok (.irem, 1) := by decide +kernel
theorem dL_refuses_523 : decode cL_refuses 523 = .ok (.iload_n 3, 1) := by decide +kernel
theorem dL_refuses_524 : decode cL_refuses 524 = .ok (.iconst 0, 1) := by decide +kernel
theorem dL_refuses_525 : decode cL_refuses 525 = .ok (.invokestatic 126, 3) := by decide +kernel
theorem dL_refuses_528 : decode cL_refuses 528 = .ok (.ldc 15, 2) := by decide +kernel
theorem dL_refuses_530 : decode cL_refuses 530 = .ok (.if_icmp .ne 44, 3) := by decide +kernel
theorem dL_refuses_533 : decode cL_refuses 533 = .ok (.aload_n 0, 1) := by decide +kernel
theorem dL_refuses_534 : decode cL_refuses 534 = .ok (.iload_n 1, 1) := by decide +kernel
theorem dL_refuses_535 : decode cL_refuses 535 = .ok (.bipush 10, 2) := by decide +kernel
theorem dL_refuses_537 : decode cL_refuses 537 = .ok (.irem, 1) := by decide +kernel
theorem dL_refuses_538 : decode cL_refuses 538 = .ok (.iconst 0, 1) := by decide +kernel
theorem dL_refuses_539 : decode cL_refuses 539 = .ok (.iload_n 3, 1) := by decide +kernel
theorem dL_refuses_540 : decode cL_refuses 540 = .ok (.invokestatic 126, 3) := by decide +kernel
theorem dL_refuses_543 : decode cL_refuses 543 = .ok (.ldc 15, 2) := by decide +kernel
theorem dL_refuses_545 : decode cL_refuses 545 = .ok (.if_icmp .ne 29, 3) := by decide +kernel
theorem dL_refuses_548 : decode cL_refuses 548 = .ok (.aload_n 0, 1) := by decide +kernel
theorem dL_refuses_549 : decode cL_refuses 549 = .ok (.iconst 0, 1) := by decide +kernel
theorem dL_refuses_550 : decode cL_refuses 550 = .ok (.invokestatic 129, 3) := by decide +kernel
theorem dL_refuses_553 : decode cL_refuses 553 = .ok (.ldc 15, 2) := by decide +kernel
theorem dL_refuses_555 : decode cL_refuses 555 = .ok (.if_icmp .ne 19, 3) := by decide +kernel
theorem dL_refuses_558 : decode cL_refuses 558 = .ok (.aload_n 0, 1) := by decide +kernel
theorem dL_refuses_559 : decode cL_refuses 559 = .ok (.iconst 3, 1) := by decide +kernel
theorem dL_refuses_560 : decode cL_refuses 560 = .ok (.iload_n 1, 1) := by decide +kernel
theorem dL_refuses_561 : decode cL_refuses 561 = .ok (.iadd, 1) := by decide +kernel
theorem dL_refuses_562 : decode cL_refuses 562 = .ok (.invokestatic 129, 3) := by decide +kernel
theorem dL_refuses_565 : decode cL_refuses 565 = .ok (.ldc 15, 2) := by decide +kernel
theorem dL_refuses_567 : decode cL_refuses 567 = .ok (.if_icmp .ne 7, 3) := by decide +kernel
theorem dL_refuses_570 : decode cL_refuses 570 = .ok (.iconst 1, 1) := by decide +kernel
theorem dL_refuses_571 : decode cL_refuses 571 = .ok (.goto 4, 3) := by decide +kernel
theorem dL_refuses_574 : decode cL_refuses 574 = .ok (.iconst 0, 1) := by decide +kernel
theorem dL_refuses_575 : decode cL_refuses 575 = .ok (.istore 4, 2) := by decide +kernel
theorem dL_refuses_577 : decode cL_refuses 577 = .ok (.iload 4, 2) := by decide +kernel
theorem dL_refuses_579 : decode cL_refuses 579 = .ok (.ifCond .eq 52, 3) := by decide +kernel
theorem dL_refuses_582 : decode cL_refuses 582 = .ok (.aload_n 0, 1) := by decide +kernel
theorem dL_refuses_583 : decode cL_refuses 583 = .ok (.invokevirtual 78, 3) := by decide +kernel
theorem dL_refuses_586 : decode cL_refuses 586 = .ok (.ifCond .eq 41, 3) := by decide +kernel
theorem dL_refuses_589 : decode cL_refuses 589 = .ok (.aload_n 0, 1) := by decide +kernel
theorem dL_refuses_590 : decode cL_refuses 590 = .ok (.iconst 0, 1) := by decide +kernel
theorem dL_refuses_591 : decode cL_refuses 591 = .ok (.invokestatic 110, 3) := by decide +kernel
theorem dL_refuses_594 : decode cL_refuses 594 = .ok (.ifCond .ne 37, 3) := by decide +kernel
theorem dL_refuses_597 : decode cL_refuses 597 = .ok (.aload_n 0, 1) := by decide +kernel
theorem dL_refuses_598 : decode cL_refuses 598 = .ok (.iconst 0, 1) := by decide +kernel
theorem dL_refuses_599 : decode cL_refuses 599 = .ok (.invokestatic 112, 3) := by decide +kernel
theorem dL_refuses_602 : decode cL_refuses 602 = .ok (.ifCond .ne 29, 3) := by decide +kernel
theorem dL_refuses_605 : decode cL_refuses 605 = .ok (.aload_n 0, 1) := by decide +kernel
theorem dL_refuses_606 : decode cL_refuses 606 = .ok (.iconst 0, 1) := by decide +kernel
theorem dL_refuses_607 : decode cL_refuses 607 = .ok (.invokestatic 106, 3) := by decide +kernel
theorem dL_refuses_610 : decode cL_refuses 610 = .ok (.ifCond .ne 21, 3) := by decide +kernel
theorem dL_refuses_613 : decode cL_refuses 613 = .ok (.aload_n 0, 1) := by decide +kernel
theorem dL_refuses_614 : decode cL_refuses 614 = .ok (.iconst 0, 1) := by decide +kernel
theorem dL_refuses_615 : decode cL_refuses 615 = .ok (.iconst 0, 1) := by decide +kernel
theorem dL_refuses_616 : decode cL_refuses 616 = .ok (.iconst 0, 1) := by decide +kernel
theorem dL_refuses_617 : decode cL_refuses 617 = .ok (.iconst 0, 1) := by decide +kernel
theorem dL_refuses_618 : decode cL_refuses 618 = .ok (.iconst 0, 1) := by decide +kernel
theorem dL_refuses_619 : decode cL_refuses 619 = .ok (.invokestatic 82, 3) := by decide +kernel
theorem dL_refuses_622 : decode cL_refuses 622 = .ok (.ldc 18, 2) := by decide +kernel
theorem dL_refuses_624 : decode cL_refuses 624 = .ok (.if_icmp .ne 7, 3) := by decide +kernel
theorem dL_refuses_627 : decode cL_refuses 627 = .ok (.iconst 1, 1) := by decide +kernel
theorem dL_refuses_628 : decode cL_refuses 628 = .ok (.goto 4, 3) := by decide +kernel
theorem dL_refuses_631 : decode cL_refuses 631 = .ok (.iconst 0, 1) := by decide +kernel
theorem dL_refuses_632 : decode cL_refuses 632 = .ok (.ireturn, 1) := by decide +kernel
set_option maxRecDepth 20000 in
theorem ggL_act_L_faults : GoodIn wsL_act wsL_faults := goodIn_ca (goodIn_r _ [4, 5, 6, 7, 8, 9, 10, 11, 12, 13, 14, 15, 16, 17, 18, 19, 20, 21, 22, 23, 24, 25, 26, 27, 28, 29, 30, 31, 32, 33, 34, 35, 36, 37, 38, 39, 40, 41, 42, 43, 44, 45, 46, 47, 48, 49, 50, 51, 52, 53, 54, 55, 56, 57, 58, 59, 60, 61, 62, 63, 64, 65, 66, 67, 68, 69, 70, 71, 72, 73, 74, 75, 76, 77, 78, 79, 80, 81, 82, 83, 84, 85, 86, 87, 88, 89, 90, 91, 92, 93, 94, 95, 96, 97, 98, 99, 100, 101, 102, 103, 104, 105, 106, 107, 108, 109, 110, 139, 140, 141, 142, 143, 144, 145, 146, 147, 148, 149, 150, 151, 152, 153, 154, 155, 156, 157, 158] (by decide +kernel) (by decide +kernel)) (goodIn_sub (fun _ h => List.mem_cons_of_mem _ (List.mem_append_left _ (List.mem_append_left _ (List.mem_append_right _ h)))) (by decide +kernel))
set_option maxRecDepth 20000 in
theorem gL_act_L_faults : GoodIn wsL_act (va_wsS RL 88 yL_faults wsL_faults) := goodIn_app (goodIn_of _ (by decide +kernel)) ggL_act_L_faults
set_option maxRecDepth 20000 in
theorem ggL_act_L_tides : GoodIn wsL_act wsL_tides := goodIn_ca (goodIn_ca (goodIn_r _ [113, 114, 5, 115, 6, 116, 117, 118, 10, 119, 120, 121, 122, 123, 15, 16, 17, 124, 125, 126, 18, 19, 20, 21, 22, 139, 140, 141, 142, 143, 144, 145, 146, 147] (by decide +kernel) (by decide +kernel)) (goodIn_sub (fun _ h => List.mem_cons_of_mem _ (List.mem_append_left _ (List.mem_append_right _ h))) (by decide +kernel))) (goodIn_sub (fun _ h => List.mem_cons_of_mem _ (List.mem_append_left _ (List.mem_append_left _ (List.mem_append_right _ h)))) (by decide +kernel))
set_option maxRecDepth 20000 in
theorem gL_act_L_tides : GoodIn wsL_act (va_wsS RL 92 yL_tides wsL_tides) := goodIn_app (goodIn_of _ (by decide +kernel)) ggL_act_L_tides
set_option maxRecDepth 20000 in
theorem ggL_act_L_logs : GoodIn wsL_act wsL_logs := goodIn_ca (goodIn_ca (goodIn_r _ [129, 5, 130, 6, 131, 132, 133, 134, 10, 135, 136, 137, 28, 29, 138, 40, 42, 45, 44, 27, 15, 16, 17, 18, 19, 20, 21, 22, 124, 125, 126, 36, 37, 38, 39, 12, 41, 13, 43, 14, 46, 47, 48, 49, 50, 51, 52, 53, 54, 55, 56, 57, 58, 59, 60, 61, 62, 63, 64, 65, 66, 67, 68, 69, 70, 71, 72, 73, 74, 75, 76, 77, 78, 79, 80, 81, 33, 82, 35, 83, 84, 85, 86, 87, 88, 89, 90, 91, 92, 93, 94, 95, 96, 97, 98, 99, 100, 101, 102, 103, 104, 105, 106, 107, 108, 109, 110, 139, 140, 141, 142, 143, 144, 145, 146, 147, 149, 150, 151, 152, 153, 154, 155, 156, 157, 158, 148] (by decide +kernel) (by decide +kernel)) (goodIn_sub (fun _ h => List.mem_cons_of_mem _ (List.mem_append_right _ h)) (by decide +kernel))) (goodIn_sub (fun _ h => List.mem_cons_of_mem _ (List.mem_append_left _ (List.mem_append_left _ (List.mem_append_right _ h)))) (by decide +kernel))
set_option maxRecDepth 20000 in
theorem gL_act_L_logs : GoodIn wsL_act (va_wsS RL 82 yL_logs wsL_logs) := goodIn_app (goodIn_of _ (by decide +kernel)) ggL_act_L_logs
theorem dL_act_0 : decode cL_act 0 = .ok (.iload_n 2, 1) := by decide +kernel
theorem dL_act_1 : decode cL_act 1 = .ok (.bipush 8, 2) := by decide +kernel
theorem dL_act_3 : decode cL_act 3 = .ok (.idiv, 1) := by decide +kernel
theorem dL_act_4 : decode cL_act 4 = .ok (.istore 4, 2) := by decide +kernel
theorem dL_act_6 : decode cL_act 6 = .ok (.iload_n 2, 1) := by decide +kernel
theorem dL_act_7 : decode cL_act 7 = .ok (.bipush 8, 2) := by decide +kernel
theorem dL_act_9 : decode cL_act 9 = .ok (.irem, 1) := by decide +kernel
theorem dL_act_10 : decode cL_act 10 = .ok (.tableswitch 94 0 2 #[26, 64, 64], 26) := by decide +kernel
theorem dL_act_36 : decode cL_act 36 = .ok (.aload_n 0, 1) := by decide +kernel
theorem dL_act_37 : decode cL_act 37 = .ok (.sipush 500, 3) := by decide +kernel
theorem dL_act_40 : decode cL_act 40 = .ok (.iload 4, 2) := by decide +kernel
theorem dL_act_42 : decode cL_act 42 = .ok (.sipush 1001, 3) := by decide +kernel
theorem dL_act_45 : decode cL_act 45 = .ok (.irem, 1) := by decide +kernel
theorem dL_act_46 : decode cL_act 46 = .ok (.iadd, 1) := by decide +kernel
theorem dL_act_47 : decode cL_act 47 = .ok (.iload 4, 2) := by decide +kernel
theorem dL_act_49 : decode cL_act 49 = .ok (.bipush 7, 2) := by decide +kernel
theorem dL_act_51 : decode cL_act 51 = .ok (.idiv, 1) := by decide +kernel
theorem dL_act_52 : decode cL_act 52 = .ok (.bipush 41, 2) := by decide +kernel
theorem dL_act_54 : decode cL_act 54 = .ok (.irem, 1) := by decide +kernel
theorem dL_act_55 : decode cL_act 55 = .ok (.bipush 20, 2) := by decide +kernel
theorem dL_act_57 : decode cL_act 57 = .ok (.isub, 1) := by decide +kernel
theorem dL_act_58 : decode cL_act 58 = .ok (.iload 4, 2) := by decide +kernel
theorem dL_act_60 : decode cL_act 60 = .ok (.sipush 287, 3) := by decide +kernel
theorem dL_act_63 : decode cL_act 63 = .ok (.idiv, 1) := by decide +kernel
theorem dL_act_64 : decode cL_act 64 = .ok (.bipush 41, 2) := by decide +kernel
theorem dL_act_66 : decode cL_act 66 = .ok (.irem, 1) := by decide +kernel
theorem dL_act_67 : decode cL_act 67 = .ok (.bipush 20, 2) := by decide +kernel
theorem dL_act_69 : decode cL_act 69 = .ok (.isub, 1) := by decide +kernel
theorem dL_act_70 : decode cL_act 70 = .ok (.invokestatic 88, 3) := by decide +kernel
theorem dL_act_73 : decode cL_act 73 = .ok (.ireturn, 1) := by decide +kernel
theorem dL_act_74 : decode cL_act 74 = .ok (.aload_n 0, 1) := by decide +kernel
theorem dL_act_75 : decode cL_act 75 = .ok (.iload 4, 2) := by decide +kernel
theorem dL_act_77 : decode cL_act 77 = .ok (.bipush 24, 2) := by decide +kernel
theorem dL_act_79 : decode cL_act 79 = .ok (.irem, 1) := by decide +kernel
theorem dL_act_80 : decode cL_act 80 = .ok (.iload 4, 2) := by decide +kernel
theorem dL_act_82 : decode cL_act 82 = .ok (.bipush 24, 2) := by decide +kernel
theorem dL_act_84 : decode cL_act 84 = .ok (.idiv, 1) := by decide +kernel
theorem dL_act_85 : decode cL_act 85 = .ok (.iload_n 3, 1) := by decide +kernel
theorem dL_act_86 : decode cL_act 86 = .ok (.iadd, 1) := by decide +kernel
theorem dL_act_87 : decode cL_act 87 = .ok (.sipush 360, 3) := by decide +kernel
theorem dL_act_90 : decode cL_act 90 = .ok (.irem, 1) := by decide +kernel
theorem dL_act_91 : decode cL_act 91 = .ok (.iload 4, 2) := by decide +kernel
theorem dL_act_93 : decode cL_act 93 = .ok (.sipush 8640, 3) := by decide +kernel
theorem dL_act_96 : decode cL_act 96 = .ok (.idiv, 1) := by decide +kernel
theorem dL_act_97 : decode cL_act 97 = .ok (.bipush 101, 2) := by decide +kernel
theorem dL_act_99 : decode cL_act 99 = .ok (.irem, 1) := by decide +kernel
theorem dL_act_100 : decode cL_act 100 = .ok (.invokestatic 92, 3) := by decide +kernel
theorem dL_act_103 : decode cL_act 103 = .ok (.ireturn, 1) := by decide +kernel
theorem dL_act_104 : decode cL_act 104 = .ok (.aload_n 0, 1) := by decide +kernel
theorem dL_act_105 : decode cL_act 105 = .ok (.aload_n 1, 1) := by decide +kernel
theorem dL_act_106 : decode cL_act 106 = .ok (.iconst 0, 1) := by decide +kernel
theorem dL_act_107 : decode cL_act 107 = .ok (.iaload, 1) := by decide +kernel
theorem dL_act_108 : decode cL_act 108 = .ok (.iload 4, 2) := by decide +kernel
theorem dL_act_110 : decode cL_act 110 = .ok (.bipush 60, 2) := by decide +kernel
theorem dL_act_112 : decode cL_act 112 = .ok (.irem, 1) := by decide +kernel
theorem dL_act_113 : decode cL_act 113 = .ok (.iadd, 1) := by decide +kernel
theorem dL_act_114 : decode cL_act 114 = .ok (.iload 4, 2) := by decide +kernel
theorem dL_act_116 : decode cL_act 116 = .ok (.bipush 7, 2) := by decide +kernel
theorem dL_act_118 : decode cL_act 118 = .ok (.idiv, 1) := by decide +kernel
theorem dL_act_119 : decode cL_act 119 = .ok (.iload 4, 2) := by decide +kernel
theorem dL_act_121 : decode cL_act 121 = .ok (.iconst 2, 1) := by decide +kernel
theorem dL_act_122 : decode cL_act 122 = .ok (.irem, 1) := by decide +kernel
theorem dL_act_123 : decode cL_act 123 = .ok (.ifCond .ne 8, 3) := by decide +kernel
theorem dL_act_126 : decode cL_act 126 = .ok (.bipush 100, 2) := by decide +kernel
theorem dL_act_128 : decode cL_act 128 = .ok (.goto 6, 3) := by decide +kernel
theorem dL_act_131 : decode cL_act 131 = .ok (.sipush 301, 3) := by decide +kernel
theorem dL_act_134 : decode cL_act 134 = .ok (.irem, 1) := by decide +kernel
theorem dL_act_135 : decode cL_act 135 = .ok (.iload 4, 2) := by decide +kernel
theorem dL_act_137 : decode cL_act 137 = .ok (.bipush 11, 2) := by decide +kernel
theorem dL_act_139 : decode cL_act 139 = .ok (.idiv, 1) := by decide +kernel
theorem dL_act_140 : decode cL_act 140 = .ok (.iload_n 3, 1) := by decide +kernel
theorem dL_act_141 : decode cL_act 141 = .ok (.iadd, 1) := by decide +kernel
theorem dL_act_142 : decode cL_act 142 = .ok (.sipush 360, 3) := by decide +kernel
theorem dL_act_145 : decode cL_act 145 = .ok (.irem, 1) := by decide +kernel
theorem dL_act_146 : decode cL_act 146 = .ok (.iload 4, 2) := by decide +kernel
theorem dL_act_148 : decode cL_act 148 = .ok (.bipush 13, 2) := by decide +kernel
theorem dL_act_150 : decode cL_act 150 = .ok (.idiv, 1) := by decide +kernel
theorem dL_act_151 : decode cL_act 151 = .ok (.iload 4, 2) := by decide +kernel
theorem dL_act_153 : decode cL_act 153 = .ok (.iconst 3, 1) := by decide +kernel
theorem dL_act_154 : decode cL_act 154 = .ok (.irem, 1) := by decide +kernel
theorem dL_act_155 : decode cL_act 155 = .ok (.ifCond .ne 9, 3) := by decide +kernel
theorem dL_act_158 : decode cL_act 158 = .ok (.sipush 601, 3) := by decide +kernel
theorem dL_act_161 : decode cL_act 161 = .ok (.goto 6, 3) := by decide +kernel
theorem dL_act_164 : decode cL_act 164 = .ok (.sipush 200, 3) := by decide +kernel
theorem dL_act_167 : decode cL_act 167 = .ok (.irem, 1) := by decide +kernel
theorem dL_act_168 : decode cL_act 168 = .ok (.iload 4, 2) := by decide +kernel
theorem dL_act_170 : decode cL_act 170 = .ok (.bipush 17, 2) := by decide +kernel
theorem dL_act_172 : decode cL_act 172 = .ok (.idiv, 1) := by decide +kernel
theorem dL_act_173 : decode cL_act 173 = .ok (.sipush 360, 3) := by decide +kernel
theorem dL_act_176 : decode cL_act 176 = .ok (.irem, 1) := by decide +kernel
theorem dL_act_177 : decode cL_act 177 = .ok (.invokestatic 82, 3) := by decide +kernel
theorem dL_act_180 : decode cL_act 180 = .ok (.ireturn, 1) := by decide +kernel
set_option maxRecDepth 20000 in
theorem ggL_alike_X3_entries : GoodIn wsL_alike wsX3_entries := goodIn_r _ [5, 6, 210, 211, 212, 213, 214, 215, 216, 217, 218] (by decide +kernel) (by decide +kernel)
set_option maxRecDepth 20000 in
theorem gL_alike_X3_entries : GoodIn wsL_alike (wsV RL 78 RX3 yX3_entries wsX3_entries) := goodIn_app (goodIn_of _ (by decide +kernel)) ggL_alike_X3_entries
set_option maxRecDepth 20000 in
theorem ggL_alike_X3_vaneShown : GoodIn wsL_alike wsX3_vaneShown := goodIn_r _ [10, 11, 12, 13, 4, 14, 6, 15, 16, 17, 18, 19, 20, 21, 22, 23, 24, 25, 26, 27, 28, 29, 30, 31, 32, 33, 34, 35, 210, 211, 212, 213, 214, 215, 216, 217, 218, 219, 220, 221, 222, 223, 224, 225, 226, 227] (by decide +kernel) (by decide +kernel)
set_option maxRecDepth 20000 in
theorem gL_alike_X3_vaneShown : GoodIn wsL_alike (wsV RL 131 RX3 yX3_vaneShown wsX3_vaneShown) := goodIn_app (goodIn_of _ (by decide +kernel)) ggL_alike_X3_vaneShown
set_option maxRecDepth 20000 in
theorem ggL_alike_L_costs : GoodIn wsL_alike wsL_costs := goodIn_ca (goodIn_r _ [39, 40, 41, 42, 43, 44, 4, 45, 6, 46, 47, 48, 49, 50, 51, 52, 53, 54, 15, 16, 17, 18, 19, 20, 21, 22, 23, 24, 25, 26, 27, 28, 29, 30, 31, 55, 56, 57, 58, 59, 60, 61, 62, 63, 210, 211, 212, 213, 214, 215, 216, 217, 218, 219, 220, 221, 222, 223, 224, 225, 226, 227] (by decide +kernel) (by decide +kernel)) (goodIn_sub (fun _ h => List.mem_cons_of_mem _ (List.mem_append_left _ (List.mem_append_right _ h))) (by decide +kernel))
set_option maxRecDepth 20000 in
theorem gL_alike_L_costs : GoodIn wsL_alike (va_wsS RL 129 yL_costs wsL_costs) := goodIn_app (goodIn_of _ (by decide +kernel)) ggL_alike_L_costs
set_option maxRecDepth 20000 in
theorem ggL_alike_L_speed : GoodIn wsL_alike wsL_speed := goodIn_ca (goodIn_r _ [66, 67, 68, 69, 70, 71, 4, 72, 15, 59, 73, 74, 75, 76, 77, 78, 6, 79, 80, 81, 210, 211, 212, 213, 214, 215, 216, 217, 218, 219, 220, 221, 222, 223, 224, 225, 226, 227] (by decide +kernel) (by decide +kernel)) (goodIn_sub (fun _ h => List.mem_cons_of_mem _ (List.mem_append_right _ h)) (by decide +kernel))
set_option maxRecDepth 20000 in
theorem gL_alike_L_speed : GoodIn wsL_alike (va_wsS RL 95 yL_speed wsL_speed) := goodIn_app (goodIn_of _ (by decide +kernel)) ggL_alike_L_speed
set_option maxRecDepth 20000 in
theorem ggL_alike_L_strength : GoodIn wsL_alike wsL_strength := goodIn_ca (goodIn_r _ [84, 67, 68, 85, 86, 87, 4, 88, 15, 89, 73, 74, 75, 76, 77, 78, 6, 79, 80, 81, 210, 211, 212, 213, 214, 215, 216, 217, 218, 219, 220, 221, 222, 223, 224, 225, 226, 227] (by decide +kernel) (by decide +kernel)) (goodIn_sub (fun _ h => List.mem_cons_of_mem _ (List.mem_append_right _ h)) (by decide +kernel))
set_option maxRecDepth 20000 in
theorem gL_alike_L_strength : GoodIn wsL_alike (va_wsS RL 98 yL_strength wsL_strength) := goodIn_app (goodIn_of _ (by decide +kernel)) ggL_alike_L_strength
set_option maxRecDepth 20000 in
theorem ggL_alike_L_angle : GoodIn wsL_alike wsL_angle := goodIn_ca (goodIn_r _ [92, 67, 68, 93, 94, 95, 4, 96, 15, 97, 73, 74, 75, 76, 77, 78, 6, 79, 80, 81, 210, 211, 212, 213, 214, 215, 216, 217, 218, 219, 220, 221, 222, 223, 224, 225, 226, 227] (by decide +kernel) (by decide +kernel)) (goodIn_sub (fun _ h => List.mem_cons_of_mem _ (List.mem_append_right _ h)) (by decide +kernel))
set_option maxRecDepth 20000 in
theorem gL_alike_L_angle : GoodIn wsL_alike (va_wsS RL 100 yL_angle wsL_angle) := goodIn_app (goodIn_of _ (by decide +kernel)) ggL_alike_L_angle
set_option maxRecDepth 20000 in
theorem ggL_alike_L_from : GoodIn wsL_alike wsL_from := goodIn_ca (goodIn_r _ [100, 67, 68, 101, 102, 103, 4, 104, 15, 105, 97, 73, 74, 75, 76, 77, 78, 6, 79, 80, 81, 106, 107, 108, 109, 110, 34, 111, 210, 211, 212, 213, 214, 215, 216, 217, 218, 219, 220, 221, 222, 223, 224, 225, 226, 227] (by decide +kernel) (by decide +kernel)) (goodIn_sub (fun _ h => List.mem_cons_of_mem _ (List.mem_append_right _ h)) (by decide +kernel))
set_option maxRecDepth 20000 in
theorem gL_alike_L_from : GoodIn wsL_alike (va_wsS RL 102 yL_from wsL_from) := goodIn_app (goodIn_of _ (by decide +kernel)) ggL_alike_L_from
set_option maxRecDepth 20000 in
theorem ggL_alike_L_side : GoodIn wsL_alike wsL_side := goodIn_ca (goodIn_r _ [114, 67, 68, 115, 116, 117, 4, 118, 15, 73, 74, 75, 76, 77, 78, 6, 79, 80, 81, 16, 17, 18, 19, 20, 21, 210, 211, 212, 213, 214, 215, 216, 217, 218, 219, 220, 221, 222, 223, 224, 225, 226, 227] (by decide +kernel) (by decide +kernel)) (goodIn_sub (fun _ h => List.mem_cons_of_mem _ (List.mem_append_right _ h)) (by decide +kernel))
set_option maxRecDepth 20000 in
theorem gL_alike_L_side : GoodIn wsL_alike (va_wsS RL 104 yL_side wsL_side) := goodIn_app (goodIn_of _ (by decide +kernel)) ggL_alike_L_side
set_option maxRecDepth 20000 in
theorem ggL_alike_L_turn : GoodIn wsL_alike wsL_turn := goodIn_ca (goodIn_r _ [121, 67, 68, 122, 123, 124, 4, 125, 73, 74, 75, 76, 77, 78, 6, 79, 80, 81, 51, 52, 53, 54, 15, 16, 17, 18, 19, 20, 21, 22, 23, 24, 25, 26, 27, 28, 29, 30, 31, 210, 211, 212, 213, 214, 215, 216, 217, 218, 219, 220, 221, 222, 223, 224, 225, 226, 227] (by decide +kernel) (by decide +kernel)) (goodIn_sub (fun _ h => List.mem_cons_of_mem _ (List.mem_append_right _ h)) (by decide +kernel))
set_option maxRecDepth 20000 in
theorem gL_alike_L_turn : GoodIn wsL_alike (va_wsS RL 106 yL_turn wsL_turn) := goodIn_app (goodIn_of _ (by decide +kernel)) ggL_alike_L_turn
set_option maxRecDepth 20000 in
theorem ggL_alike_L_cost : GoodIn wsL_alike wsL_cost := goodIn_ca (goodIn_r _ [128, 67, 68, 129, 130, 131, 4, 132, 73, 74, 75, 76, 77, 78, 6, 79, 80, 81, 55, 56, 57, 58, 15, 59, 28, 29, 30, 31, 60, 61, 62, 63, 51, 52, 53, 54, 16, 17, 18, 19, 20, 21, 22, 23, 24, 25, 26, 27, 210, 211, 212, 213, 214, 215, 216, 217, 218, 219, 220, 221, 222, 223, 224, 225, 226, 227] (by decide +kernel) (by decide +kernel)) (goodIn_sub (fun _ h => List.mem_cons_of_mem _ (List.mem_append_right _ h)) (by decide +kernel))
set_option maxRecDepth 20000 in
theorem gL_alike_L_cost : GoodIn wsL_alike (va_wsS RL 108 yL_cost wsL_cost) := goodIn_app (goodIn_of _ (by decide +kernel)) ggL_alike_L_cost
set_option maxRecDepth 20000 in
theorem ggL_alike_L_east : GoodIn wsL_alike wsL_east := goodIn_ca (goodIn_r _ [135, 67, 68, 136, 137, 138, 4, 139, 73, 74, 75, 76, 77, 78, 6, 79, 80, 81, 140, 141, 142, 143, 15, 63, 59, 144, 105, 145, 146, 147, 148, 149, 150, 151, 152, 153, 154, 110, 34, 111, 155, 156, 157, 210, 211, 212, 213, 214, 215, 216, 217, 218, 219, 220, 221, 222, 223, 224, 225, 226, 227, 228] (by decide +kernel) (by decide +kernel)) (goodIn_sub (fun _ h => List.mem_cons_of_mem _ (List.mem_append_right _ h)) (by decide +kernel))
set_option maxRecDepth 20000 in
theorem gL_alike_L_east : GoodIn wsL_alike (va_wsS RL 110 yL_east wsL_east) := goodIn_app (goodIn_of _ (by decide +kernel)) ggL_alike_L_east
set_option maxRecDepth 20000 in
theorem ggL_alike_L_north : GoodIn wsL_alike wsL_north := goodIn_ca (goodIn_r _ [160, 67, 68, 161, 162, 163, 4, 164, 73, 74, 75, 76, 77, 78, 6, 79, 80, 81, 140, 141, 142, 143, 15, 63, 59, 144, 105, 145, 146, 147, 148, 149, 150, 151, 152, 153, 154, 110, 34, 111, 155, 156, 157, 210, 211, 212, 213, 214, 215, 216, 217, 218, 219, 220, 221, 222, 223, 224, 225, 226, 227, 228] (by decide +kernel) (by decide +kernel)) (goodIn_sub (fun _ h => List.mem_cons_of_mem _ (List.mem_append_right _ h)) (by decide +kernel))
set_option maxRecDepth 20000 in
theorem gL_alike_L_north : GoodIn wsL_alike (va_wsS RL 112 yL_north wsL_north) := goodIn_app (goodIn_of _ (by decide +kernel)) ggL_alike_L_north
set_option maxRecDepth 20000 in
theorem ggL_alike_L_best : GoodIn wsL_alike wsL_best := goodIn_ca (goodIn_r _ [167, 67, 68, 168, 169, 170, 4, 171, 172, 173, 174, 175, 77, 78, 79, 80, 81, 176, 177, 178, 179, 180, 181, 182, 183, 184, 210, 211, 212, 213, 214, 215, 216, 217, 218, 229] (by decide +kernel) (by decide +kernel)) (goodIn_sub (fun _ h => List.mem_cons_of_mem _ (List.mem_append_right _ h)) (by decide +kernel))
set_option maxRecDepth 20000 in
theorem gL_alike_L_best : GoodIn wsL_alike (va_wsS RL 114 yL_best wsL_best) := goodIn_app (goodIn_of _ (by decide +kernel)) ggL_alike_L_best
set_option maxRecDepth 20000 in
theorem ggL_alike_L_up : GoodIn wsL_alike wsL_up := goodIn_ca (goodIn_r _ [187, 67, 68, 188, 189, 190, 4, 191, 176, 177, 178, 77, 78, 79, 80, 81, 192, 193, 194, 195, 172, 144, 179, 180, 181, 182, 183, 184, 196, 197, 198, 28, 29, 30, 31, 199, 200, 201, 151, 202, 153, 154, 110, 34, 111, 210, 211, 212, 213, 214, 215, 216, 217, 218, 229, 228] (by decide +kernel) (by decide +kernel)) (goodIn_sub (fun _ h => List.mem_cons_of_mem _ (List.mem_append_right _ h)) (by decide +kernel))
set_option maxRecDepth 20000 in
theorem gL_alike_L_up : GoodIn wsL_alike (va_wsS RL 120 yL_up wsL_up) := goodIn_app (goodIn_of _ (by decide +kernel)) ggL_alike_L_up
set_option maxRecDepth 20000 in
theorem ggL_alike_L_down : GoodIn wsL_alike wsL_down := goodIn_ca (goodIn_r _ [205, 67, 68, 206, 207, 208, 4, 209, 176, 177, 178, 77, 78, 79, 80, 81, 192, 193, 194, 195, 172, 144, 179, 180, 181, 182, 183, 184, 196, 197, 198, 28, 29, 30, 31, 199, 200, 201, 151, 202, 153, 154, 110, 34, 111, 210, 211, 212, 213, 214, 215, 216, 217, 218, 229, 228] (by decide +kernel) (by decide +kernel)) (goodIn_sub (fun _ h => List.mem_cons_of_mem _ (List.mem_append_right _ h)) (by decide +kernel))
set_option maxRecDepth 20000 in
theorem gL_alike_L_down : GoodIn wsL_alike (va_wsS RL 123 yL_down wsL_down) := goodIn_app (goodIn_of _ (by decide +kernel)) ggL_alike_L_down
theorem dL_alike_0 : decode cL_alike 0 = .ok (.aload_n 0, 1) := by decide +kernel
theorem dL_alike_1 : decode cL_alike 1 = .ok (.invokevirtual 78, 3) := by decide +kernel
theorem dL_alike_4 : decode cL_alike 4 = .ok (.aload_n 1, 1) := by decide +kernel
theorem dL_alike_5 : decode cL_alike 5 = .ok (.invokevirtual 78, 3) := by decide +kernel
theorem dL_alike_8 : decode cL_alike 8 = .ok (.if_icmp .ne 44, 3) := by decide +kernel
theorem dL_alike_11 : decode cL_alike 11 = .ok (.aload_n 0, 1) := by decide +kernel
theorem dL_alike_12 : decode cL_alike 12 = .ok (.invokevirtual 131, 3) := by decide +kernel
theorem dL_alike_15 : decode cL_alike 15 = .ok (.aload_n 1, 1) := by decide +kernel
theorem dL_alike_16 : decode cL_alike 16 = .ok (.invokevirtual 131, 3) := by decide +kernel
theorem dL_alike_19 : decode cL_alike 19 = .ok (.if_icmp .ne 33, 3) := by decide +kernel
theorem dL_alike_22 : decode cL_alike 22 = .ok (.aload_n 0, 1) := by decide +kernel
theorem dL_alike_23 : decode cL_alike 23 = .ok (.iconst 1, 1) := by decide +kernel
theorem dL_alike_24 : decode cL_alike 24 = .ok (.invokestatic 129, 3) := by decide +kernel
theorem dL_alike_27 : decode cL_alike 27 = .ok (.aload_n 1, 1) := by decide +kernel
theorem dL_alike_28 : decode cL_alike 28 = .ok (.iconst 1, 1) := by decide +kernel
theorem dL_alike_29 : decode cL_alike 29 = .ok (.invokestatic 129, 3) := by decide +kernel
theorem dL_alike_32 : decode cL_alike 32 = .ok (.if_icmp .ne 20, 3) := by decide +kernel
theorem dL_alike_35 : decode cL_alike 35 = .ok (.aload_n 0, 1) := by decide +kernel
theorem dL_alike_36 : decode cL_alike 36 = .ok (.iconst 2, 1) := by decide +kernel
theorem dL_alike_37 : decode cL_alike 37 = .ok (.invokestatic 129, 3) := by decide +kernel
theorem dL_alike_40 : decode cL_alike 40 = .ok (.aload_n 1, 1) := by decide +kernel
theorem dL_alike_41 : decode cL_alike 41 = .ok (.iconst 2, 1) := by decide +kernel
theorem dL_alike_42 : decode cL_alike 42 = .ok (.invokestatic 129, 3) := by decide +kernel
theorem dL_alike_45 : decode cL_alike 45 = .ok (.if_icmp .ne 7, 3) := by decide +kernel
theorem dL_alike_48 : decode cL_alike 48 = .ok (.iconst 1, 1) := by decide +kernel
theorem dL_alike_49 : decode cL_alike 49 = .ok (.goto 4, 3) := by decide +kernel
theorem dL_alike_52 : decode cL_alike 52 = .ok (.iconst 0, 1) := by decide +kernel
theorem dL_alike_53 : decode cL_alike 53 = .ok (.istore 4, 2) := by decide +kernel
theorem dL_alike_55 : decode cL_alike 55 = .ok (.iconst 0, 1) := by decide +kernel
theorem dL_alike_56 : decode cL_alike 56 = .ok (.istore 5, 2) := by decide +kernel
theorem dL_alike_58 : decode cL_alike 58 = .ok (.iload 5, 2) := by decide +kernel
theorem dL_alike_60 : decode cL_alike 60 = .ok (.aload_n 0, 1) := by decide +kernel
theorem dL_alike_61 : decode cL_alike 61 = .ok (.invokevirtual 78, 3) := by decide +kernel
theorem dL_alike_64 : decode cL_alike 64 = .ok (.if_icmp .ge 166, 3) := by decide +kernel
theorem dL_alike_67 : decode cL_alike 67 = .ok (.iload 4, 2) := by decide +kernel
theorem dL_alike_69 : decode cL_alike 69 = .ok (.ifCond .eq 161, 3) := by decide +kernel
theorem dL_alike_72 : decode cL_alike 72 = .ok (.aload_n 0, 1) := by decide +kernel
theorem dL_alike_73 : decode cL_alike 73 = .ok (.iload 5, 2) := by decide +kernel
theorem dL_alike_75 : decode cL_alike 75 = .ok (.invokestatic 95, 3) := by decide +kernel
theorem dL_alike_78 : decode cL_alike 78 = .ok (.aload_n 1, 1) := by decide +kernel
theorem dL_alike_79 : decode cL_alike 79 = .ok (.iload 5, 2) := by decide +kernel
theorem dL_alike_81 : decode cL_alike 81 = .ok (.invokestatic 95, 3) := by decide +kernel
theorem dL_alike_84 : decode cL_alike 84 = .ok (.if_icmp .ne 137, 3) := by decide +kernel
theorem dL_alike_87 : decode cL_alike 87 = .ok (.aload_n 0, 1) := by decide +kernel
theorem dL_alike_88 : decode cL_alike 88 = .ok (.iload 5, 2) := by decide +kernel
theorem dL_alike_90 : decode cL_alike 90 = .ok (.invokestatic 98, 3) := by decide +kernel
theorem dL_alike_93 : decode cL_alike 93 = .ok (.aload_n 1, 1) := by decide +kernel
theorem dL_alike_94 : decode cL_alike 94 = .ok (.iload 5, 2) := by decide +kernel
theorem dL_alike_96 : decode cL_alike 96 = .ok (.invokestatic 98, 3) := by decide +kernel
theorem dL_alike_99 : decode cL_alike 99 = .ok (.if_icmp .ne 122, 3) := by decide +kernel
theorem dL_alike_102 : decode cL_alike 102 = .ok (.aload_n 0, 1) := by decide +kernel
theorem dL_alike_103 : decode cL_alike 103 = .ok (.iload 5, 2) := by decide +kernel
theorem dL_alike_105 : decode cL_alike 105 = .ok (.invokestatic 100, 3) := by decide +kernel
theorem dL_alike_108 : decode cL_alike 108 = .ok (.aload_n 1, 1) := by decide +kernel
theorem dL_alike_109 : decode cL_alike 109 = .ok (.iload 5, 2) := by decide +kernel
theorem dL_alike_111 : decode cL_alike 111 = .ok (.invokestatic 100, 3) := by decide +kernel
theorem dL_alike_114 : decode cL_alike 114 = .ok (.if_icmp .ne 107, 3) := by decide +kernel
theorem dL_alike_117 : decode cL_alike 117 = .ok (.aload_n 0, 1) := by decide +kernel
theorem dL_alike_118 : decode cL_alike 118 = .ok (.iload 5, 2) := by decide +kernel
theorem dL_alike_120 : decode cL_alike 120 = .ok (.invokestatic 102, 3) := by decide +kernel
theorem dL_alike_123 : decode cL_alike 123 = .ok (.iload_n 2, 1) := by decide +kernel
theorem dL_alike_124 : decode cL_alike 124 = .ok (.iadd, 1) := by decide +kernel
theorem dL_alike_125 : decode cL_alike 125 = .ok (.sipush 360, 3) := by decide +kernel
theorem dL_alike_128 : decode cL_alike 128 = .ok (.irem, 1) := by decide +kernel
theorem dL_alike_129 : decode cL_alike 129 = .ok (.aload_n 1, 1) := by decide +kernel
theorem dL_alike_130 : decode cL_alike 130 = .ok (.iload 5, 2) := by decide +kernel
theorem dL_alike_132 : decode cL_alike 132 = .ok (.invokestatic 102, 3) := by decide +kernel
theorem dL_alike_135 : decode cL_alike 135 = .ok (.if_icmp .ne 86, 3) := by decide +kernel
theorem dL_alike_138 : decode cL_alike 138 = .ok (.aload_n 0, 1) := by decide +kernel
theorem dL_alike_139 : decode cL_alike 139 = .ok (.iload 5, 2) := by decide +kernel
theorem dL_alike_141 : decode cL_alike 141 = .ok (.invokestatic 104, 3) := by decide +kernel
theorem dL_alike_144 : decode cL_alike 144 = .ok (.aload_n 1, 1) := by decide +kernel
theorem dL_alike_145 : decode cL_alike 145 = .ok (.iload 5, 2) := by decide +kernel
theorem dL_alike_147 : decode cL_alike 147 = .ok (.invokestatic 104, 3) := by decide +kernel
theorem dL_alike_150 : decode cL_alike 150 = .ok (.if_icmp .ne 71, 3) := by decide +kernel
theorem dL_alike_153 : decode cL_alike 153 = .ok (.aload_n 0, 1) := by decide +kernel
theorem dL_alike_154 : decode cL_alike 154 = .ok (.iload 5, 2) := by decide +kernel
theorem dL_alike_156 : decode cL_alike 156 = .ok (.invokestatic 106, 3) := by decide +kernel
theorem dL_alike_159 : decode cL_alike 159 = .ok (.aload_n 1, 1) := by decide +kernel
theorem dL_alike_160 : decode cL_alike 160 = .ok (.iload 5, 2) := by decide +kernel
theorem dL_alike_162 : decode cL_alike 162 = .ok (.invokestatic 106, 3) := by decide +kernel
theorem dL_alike_165 : decode cL_alike 165 = .ok (.if_icmp .ne 56, 3) := by decide +kernel
theorem dL_alike_168 : decode cL_alike 168 = .ok (.aload_n 0, 1) := by decide +kernel
theorem dL_alike_169 : decode cL_alike 169 = .ok (.iload 5, 2) := by decide +kernel
theorem dL_alike_171 : decode cL_alike 171 = .ok (.invokestatic 108, 3) := by decide +kernel
theorem dL_alike_174 : decode cL_alike 174 = .ok (.aload_n 1, 1) := by decide +kernel
theorem dL_alike_175 : decode cL_alike 175 = .ok (.iload 5, 2) := by decide +kernel
theorem dL_alike_177 : decode cL_alike 177 = .ok (.invokestatic 108, 3) := by decide +kernel
theorem dL_alike_180 : decode cL_alike 180 = .ok (.if_icmp .ne 41, 3) := by decide +kernel
theorem dL_alike_183 : decode cL_alike 183 = .ok (.iload_n 2, 1) := by decide +kernel
theorem dL_alike_184 : decode cL_alike 184 = .ok (.ifCond .gt 33, 3) := by decide +kernel
theorem dL_alike_187 : decode cL_alike 187 = .ok (.aload_n 0, 1) := by decide +kernel
theorem dL_alike_188 : decode cL_alike 188 = .ok (.iload 5, 2) := by decide +kernel
theorem dL_alike_190 : decode cL_alike 190 = .ok (.invokestatic 110, 3) := by decide +kernel
theorem dL_alike_193 : decode cL_alike 193 = .ok (.aload_n 1, 1) := by decide +kernel
theorem dL_alike_194 : decode cL_alike 194 = .ok (.iload 5, 2) := by decide +kernel
theorem dL_alike_196 : decode cL_alike 196 = .ok (.invokestatic 110, 3) := by decide +kernel
theorem dL_alike_199 : decode cL_alike 199 = .ok (.if_icmp .ne 22, 3) := by decide +kernel
theorem dL_alike_202 : decode cL_alike 202 = .ok (.aload_n 0, 1) := by decide +kernel
theorem dL_alike_203 : decode cL_alike 203 = .ok (.iload 5, 2) := by decide +kernel
theorem dL_alike_205 : decode cL_alike 205 = .ok (.invokestatic 112, 3) := by decide +kernel
theorem dL_alike_208 : decode cL_alike 208 = .ok (.aload_n 1, 1) := by decide +kernel
theorem dL_alike_209 : decode cL_alike 209 = .ok (.iload 5, 2) := by decide +kernel
theorem dL_alike_211 : decode cL_alike 211 = .ok (.invokestatic 112, 3) := by decide +kernel
theorem dL_alike_214 : decode cL_alike 214 = .ok (.if_icmp .ne 7, 3) := by decide +kernel
theorem dL_alike_217 : decode cL_alike 217 = .ok (.iconst 1, 1) := by decide +kernel
theorem dL_alike_218 : decode cL_alike 218 = .ok (.goto 4, 3) := by decide +kernel
theorem dL_alike_221 : decode cL_alike 221 = .ok (.iconst 0, 1) := by decide +kernel
theorem dL_alike_222 : decode cL_alike 222 = .ok (.istore 4, 2) := by decide +kernel
theorem dL_alike_224 : decode cL_alike 224 = .ok (.iinc 5 1, 3) := by decide +kernel
theorem dL_alike_227 : decode cL_alike 227 = .ok (.goto (-169), 3) := by decide +kernel
theorem dL_alike_230 : decode cL_alike 230 = .ok (.iload 4, 2) := by decide +kernel
theorem dL_alike_232 : decode cL_alike 232 = .ok (.ifCond .eq 84, 3) := by decide +kernel
theorem dL_alike_235 : decode cL_alike 235 = .ok (.aload_n 0, 1) := by decide +kernel
theorem dL_alike_236 : decode cL_alike 236 = .ok (.iload_n 3, 1) := by decide +kernel
theorem dL_alike_237 : decode cL_alike 237 = .ok (.bipush 19, 2) := by decide +kernel
theorem dL_alike_239 : decode cL_alike 239 = .ok (.irem, 1) := by decide +kernel
theorem dL_alike_240 : decode cL_alike 240 = .ok (.iload_n 3, 1) := by decide +kernel
theorem dL_alike_241 : decode cL_alike 241 = .ok (.bipush 19, 2) := by decide +kernel
theorem dL_alike_243 : decode cL_alike 243 = .ok (.idiv, 1) := by decide +kernel
theorem dL_alike_244 : decode cL_alike 244 = .ok (.bipush 10, 2) := by decide +kernel
theorem dL_alike_246 : decode cL_alike 246 = .ok (.irem, 1) := by decide +kernel
theorem dL_alike_247 : decode cL_alike 247 = .ok (.invokestatic 114, 3) := by decide +kernel
theorem dL_alike_250 : decode cL_alike 250 = .ok (.aload_n 1, 1) := by decide +kernel
theorem dL_alike_251 : decode cL_alike 251 = .ok (.iload_n 3, 1) := by decide +kernel
theorem dL_alike_252 : decode cL_alike 252 = .ok (.bipush 19, 2) := by decide +kernel
theorem dL_alike_254 : decode cL_alike 254 = .ok (.irem, 1) := by decide +kernel
theorem dL_alike_255 : decode cL_alike 255 = .ok (.iload_n 3, 1) := by decide +kernel
theorem dL_alike_256 : decode cL_alike 256 = .ok (.bipush 19, 2) := by decide +kernel
theorem dL_alike_258 : decode cL_alike 258 = .ok (.idiv, 1) := by decide +kernel
theorem dL_alike_259 : decode cL_alike 259 = .ok (.bipush 10, 2) := by decide +kernel
theorem dL_alike_261 : decode cL_alike 261 = .ok (.irem, 1) := by decide +kernel
theorem dL_alike_262 : decode cL_alike 262 = .ok (.invokestatic 114, 3) := by decide +kernel
theorem dL_alike_265 : decode cL_alike 265 = .ok (.if_icmp .ne 51, 3) := by decide +kernel
theorem dL_alike_268 : decode cL_alike 268 = .ok (.aload_n 0, 1) := by decide +kernel
theorem dL_alike_269 : decode cL_alike 269 = .ok (.iload_n 3, 1) := by decide +kernel
theorem dL_alike_270 : decode cL_alike 270 = .ok (.bipush 10, 2) := by decide +kernel
theorem dL_alike_272 : decode cL_alike 272 = .ok (.irem, 1) := by decide +kernel
theorem dL_alike_273 : decode cL_alike 273 = .ok (.invokestatic 120, 3) := by decide +kernel
theorem dL_alike_276 : decode cL_alike 276 = .ok (.aload_n 1, 1) := by decide +kernel
theorem dL_alike_277 : decode cL_alike 277 = .ok (.iload_n 3, 1) := by decide +kernel
theorem dL_alike_278 : decode cL_alike 278 = .ok (.bipush 10, 2) := by decide +kernel
theorem dL_alike_280 : decode cL_alike 280 = .ok (.irem, 1) := by decide +kernel
theorem dL_alike_281 : decode cL_alike 281 = .ok (.invokestatic 120, 3) := by decide +kernel
theorem dL_alike_284 : decode cL_alike 284 = .ok (.if_icmp .ne 32, 3) := by decide +kernel
theorem dL_alike_287 : decode cL_alike 287 = .ok (.aload_n 0, 1) := by decide +kernel
theorem dL_alike_288 : decode cL_alike 288 = .ok (.iload_n 3, 1) := by decide +kernel
theorem dL_alike_289 : decode cL_alike 289 = .ok (.bipush 10, 2) := by decide +kernel
theorem dL_alike_291 : decode cL_alike 291 = .ok (.idiv, 1) := by decide +kernel
theorem dL_alike_292 : decode cL_alike 292 = .ok (.bipush 10, 2) := by decide +kernel
theorem dL_alike_294 : decode cL_alike 294 = .ok (.irem, 1) := by decide +kernel
theorem dL_alike_295 : decode cL_alike 295 = .ok (.invokestatic 123, 3) := by decide +kernel
theorem dL_alike_298 : decode cL_alike 298 = .ok (.aload_n 1, 1) := by decide +kernel
theorem dL_alike_299 : decode cL_alike 299 = .ok (.iload_n 3, 1) := by decide +kernel
theorem dL_alike_300 : decode cL_alike 300 = .ok (.bipush 10, 2) := by decide +kernel
theorem dL_alike_302 : decode cL_alike 302 = .ok (.idiv, 1) := by decide +kernel
theorem dL_alike_303 : decode cL_alike 303 = .ok (.bipush 10, 2) := by decide +kernel
theorem dL_alike_305 : decode cL_alike 305 = .ok (.irem, 1) := by decide +kernel
theorem dL_alike_306 : decode cL_alike 306 = .ok (.invokestatic 123, 3) := by decide +kernel
theorem dL_alike_309 : decode cL_alike 309 = .ok (.if_icmp .ne 7, 3) := by decide +kernel
theorem dL_alike_312 : decode cL_alike 312 = .ok (.iconst 1, 1) := by decide +kernel
theorem dL_alike_313 : decode cL_alike 313 = .ok (.goto 4, 3) := by decide +kernel
theorem dL_alike_316 : decode cL_alike 316 = .ok (.iconst 0, 1) := by decide +kernel
theorem dL_alike_317 : decode cL_alike 317 = .ok (.ireturn, 1) := by decide +kernel
theorem dL_open_0 : decode cL_open 0 = .ok (.iload_n 0, 1) := by decide +kernel
theorem dL_open_1 : decode cL_open 1 = .ok (.sipush 180, 3) := by decide +kernel
theorem dL_open_4 : decode cL_open 4 = .ok (.if_icmp .le 11, 3) := by decide +kernel
theorem dL_open_7 : decode cL_open 7 = .ok (.sipush 360, 3) := by decide +kernel
theorem dL_open_10 : decode cL_open 10 = .ok (.iload_n 0, 1) := by decide +kernel
theorem dL_open_11 : decode cL_open 11 = .ok (.isub, 1) := by decide +kernel
theorem dL_open_12 : decode cL_open 12 = .ok (.goto 4, 3) := by decide +kernel
theorem dL_open_15 : decode cL_open 15 = .ok (.iload_n 0, 1) := by decide +kernel
theorem dL_open_16 : decode cL_open 16 = .ok (.ireturn, 1) := by decide +kernel
set_option maxRecDepth 20000 in
theorem ggL_holds_X3_entries : GoodIn wsL_holds wsX3_entries := goodIn_r _ [5, 6, 209, 210, 211, 212, 213, 214, 215, 216, 217] (by decide +kernel) (by decide +kernel)
set_option maxRecDepth 20000 in
theorem gL_holds_X3_entries : GoodIn wsL_holds (wsV RL 78 RX3 yX3_entries wsX3_entries) := goodIn_app (goodIn_of _ (by decide +kernel)) ggL_holds_X3_entries
set_option maxRecDepth 20000 in
theorem ggL_holds_L_strength : GoodIn wsL_holds wsL_strength := goodIn_ca (goodIn_r _ [10, 11, 12, 13, 14, 15, 4, 16, 17, 18, 19, 20, 21, 22, 23, 24, 6, 25, 26, 27, 209, 210, 211, 212, 213, 214, 215, 216, 217, 218, 219, 220, 221, 222, 223, 224, 225, 226] (by decide +kernel) (by decide +kernel)) (goodIn_sub (fun _ h => List.mem_cons_of_mem _ (List.mem_append_left _ (List.mem_append_right _ h))) (by decide +kernel))
set_option maxRecDepth 20000 in
theorem gL_holds_L_strength : GoodIn wsL_holds (va_wsS RL 98 yL_strength wsL_strength) := goodIn_app (goodIn_of _ (by decide +kernel)) ggL_holds_L_strength
set_option maxRecDepth 20000 in
theorem ggL_holds_L_angle : GoodIn wsL_holds wsL_angle := goodIn_ca (goodIn_r _ [30, 11, 12, 31, 32, 33, 4, 34, 17, 35, 19, 20, 21, 22, 23, 24, 6, 25, 26, 27, 209, 210, 211, 212, 213, 214, 215, 216, 217, 218, 219, 220, 221, 222, 223, 224, 225, 226] (by decide +kernel) (by decide +kernel)) (goodIn_sub (fun _ h => List.mem_cons_of_mem _ (List.mem_append_left _ (List.mem_append_right _ h))) (by decide +kernel))
set_option maxRecDepth 20000 in
theorem gL_holds_L_angle : GoodIn wsL_holds (va_wsS RL 100 yL_angle wsL_angle) := goodIn_app (goodIn_of _ (by decide +kernel)) ggL_holds_L_angle
set_option maxRecDepth 20000 in
theorem ggL_holds_L_open : GoodIn wsL_holds wsL_open := goodIn_r _ [38] (by decide +kernel) (by decide +kernel)
set_option maxRecDepth 20000 in
theorem gL_holds_L_open : GoodIn wsL_holds (va_wsS RL 134 yL_open wsL_open) := goodIn_app (goodIn_of _ (by decide +kernel)) ggL_holds_L_open
set_option maxRecDepth 20000 in
theorem ggL_holds_L_turn : GoodIn wsL_holds wsL_turn := goodIn_ca (goodIn_r _ [41, 11, 12, 42, 43, 44, 4, 45, 19, 20, 21, 22, 23, 24, 6, 25, 26, 27, 46, 47, 48, 49, 17, 50, 51, 52, 53, 54, 55, 56, 57, 58, 59, 60, 61, 62, 63, 64, 65, 209, 210, 211, 212, 213, 214, 215, 216, 217, 218, 219, 220, 221, 222, 223, 224, 225, 226] (by decide +kernel) (by decide +kernel)) (goodIn_sub (fun _ h => List.mem_cons_of_mem _ (List.mem_append_left _ (List.mem_append_right _ h))) (by decide +kernel))
set_option maxRecDepth 20000 in
theorem gL_holds_L_turn : GoodIn wsL_holds (va_wsS RL 106 yL_turn wsL_turn) := goodIn_app (goodIn_of _ (by decide +kernel)) ggL_holds_L_turn
set_option maxRecDepth 20000 in
theorem ggL_holds_L_cost : GoodIn wsL_holds wsL_cost := goodIn_ca (goodIn_r _ [68, 11, 12, 69, 70, 71, 4, 72, 19, 20, 21, 22, 23, 24, 6, 25, 26, 27, 73, 74, 75, 76, 17, 77, 62, 63, 64, 65, 78, 79, 80, 81, 46, 47, 48, 49, 50, 51, 52, 53, 54, 55, 56, 57, 58, 59, 60, 61, 209, 210, 211, 212, 213, 214, 215, 216, 217, 218, 219, 220, 221, 222, 223, 224, 225, 226] (by decide +kernel) (by decide +kernel)) (goodIn_sub (fun _ h => List.mem_cons_of_mem _ (List.mem_append_left _ (List.mem_append_right _ h))) (by decide +kernel))
set_option maxRecDepth 20000 in
theorem gL_holds_L_cost : GoodIn wsL_holds (va_wsS RL 108 yL_cost wsL_cost) := goodIn_app (goodIn_of _ (by decide +kernel)) ggL_holds_L_cost
set_option maxRecDepth 20000 in
theorem ggL_holds_L_side : GoodIn wsL_holds wsL_side := goodIn_ca (goodIn_r _ [84, 11, 12, 85, 86, 87, 4, 88, 17, 19, 20, 21, 22, 23, 24, 6, 25, 26, 27, 50, 51, 52, 53, 54, 55, 209, 210, 211, 212, 213, 214, 215, 216, 217, 218, 219, 220, 221, 222, 223, 224, 225, 226] (by decide +kernel) (by decide +kernel)) (goodIn_sub (fun _ h => List.mem_cons_of_mem _ (List.mem_append_left _ (List.mem_append_right _ h))) (by decide +kernel))
set_option maxRecDepth 20000 in
theorem gL_holds_L_side : GoodIn wsL_holds (va_wsS RL 104 yL_side wsL_side) := goodIn_app (goodIn_of _ (by decide +kernel)) ggL_holds_L_side
set_option maxRecDepth 20000 in
theorem ggL_holds_L_best : GoodIn wsL_holds wsL_best := goodIn_ca (goodIn_r _ [91, 11, 12, 92, 93, 94, 4, 95, 96, 97, 98, 99, 23, 24, 25, 26, 27, 100, 101, 102, 103, 104, 105, 106, 107, 108, 209, 210, 211, 212, 213, 214, 215, 216, 217, 227] (by decide +kernel) (by decide +kernel)) (goodIn_sub (fun _ h => List.mem_cons_of_mem _ (List.mem_append_left _ (List.mem_append_right _ h))) (by decide +kernel))
set_option maxRecDepth 20000 in
theorem gL_holds_L_best : GoodIn wsL_holds (va_wsS RL 114 yL_best wsL_best) := goodIn_app (goodIn_of _ (by decide +kernel)) ggL_holds_L_best
set_option maxRecDepth 20000 in
theorem ggL_holds_L_speed : GoodIn wsL_holds wsL_speed := goodIn_ca (goodIn_r _ [111, 11, 12, 112, 113, 114, 4, 115, 17, 77, 19, 20, 21, 22, 23, 24, 6, 25, 26, 27, 209, 210, 211, 212, 213, 214, 215, 216, 217, 218, 219, 220, 221, 222, 223, 224, 225, 226] (by decide +kernel) (by decide +kernel)) (goodIn_sub (fun _ h => List.mem_cons_of_mem _ (List.mem_append_left _ (List.mem_append_right _ h))) (by decide +kernel))
set_option maxRecDepth 20000 in
theorem gL_holds_L_speed : GoodIn wsL_holds (va_wsS RL 95 yL_speed wsL_speed) := goodIn_app (goodIn_of _ (by decide +kernel)) ggL_holds_L_speed
set_option maxRecDepth 20000 in
theorem ggL_holds_L_byLog : GoodIn wsL_holds wsL_byLog := goodIn_ca (goodIn_r _ [118, 11, 12, 119, 120, 121, 4, 122, 6, 17, 77, 78, 79, 64, 80, 97, 98, 99, 23, 24, 25, 26, 27, 100, 101, 102, 123, 124, 125, 53, 126, 127, 57, 58, 59, 55, 60, 61, 62, 63, 65, 128, 129, 130, 131, 132, 133, 134, 135, 209, 210, 211, 212, 213, 214, 215, 216, 217, 218, 219, 220, 221, 222, 223, 224, 225, 226] (by decide +kernel) (by decide +kernel)) (goodIn_sub (fun _ h => List.mem_cons_of_mem _ (List.mem_append_left _ (List.mem_append_right _ h))) (by decide +kernel))
set_option maxRecDepth 20000 in
theorem gL_holds_L_byLog : GoodIn wsL_holds (va_wsS RL 117 yL_byLog wsL_byLog) := goodIn_app (goodIn_of _ (by decide +kernel)) ggL_holds_L_byLog
set_option maxRecDepth 20000 in
theorem ggL_holds_L_costs : GoodIn wsL_holds wsL_costs := goodIn_ca (goodIn_r _ [138, 139, 140, 141, 142, 143, 4, 144, 6, 145, 146, 147, 148, 149, 46, 47, 48, 49, 17, 50, 51, 52, 53, 54, 55, 56, 57, 58, 59, 60, 61, 62, 63, 64, 65, 73, 74, 75, 76, 77, 78, 79, 80, 81, 209, 210, 211, 212, 213, 214, 215, 216, 217, 218, 219, 220, 221, 222, 223, 224, 225, 226] (by decide +kernel) (by decide +kernel)) (goodIn_sub (fun _ h => List.mem_cons_of_mem _ (List.mem_append_right _ h)) (by decide +kernel))
set_option maxRecDepth 20000 in
theorem gL_holds_L_costs : GoodIn wsL_holds (va_wsS RL 129 yL_costs wsL_costs) := goodIn_app (goodIn_of _ (by decide +kernel)) ggL_holds_L_costs
set_option maxRecDepth 20000 in
theorem ggL_holds_L_course : GoodIn wsL_holds wsL_course := goodIn_ca (goodIn_ca (goodIn_r _ [152, 11, 139, 12, 140, 153, 154, 155, 4, 156, 96, 157, 100, 101, 102, 23, 24, 25, 26, 27, 158, 159, 160, 145, 146, 147, 148, 149, 161, 162, 163, 164, 165, 166, 167, 168, 60, 61, 62, 63, 64, 65, 169, 128, 129, 103, 104, 105, 106, 107, 108, 170, 171, 172, 173, 174, 175, 176, 209, 210, 211, 212, 213, 214, 215, 216, 217, 227, 228] (by decide +kernel) (by decide +kernel)) (goodIn_sub (fun _ h => List.mem_cons_of_mem _ (List.mem_append_left _ (List.mem_append_right _ h))) (by decide +kernel))) (goodIn_sub (fun _ h => List.mem_cons_of_mem _ (List.mem_append_right _ h)) (by decide +kernel))
set_option maxRecDepth 20000 in
theorem gL_holds_L_course : GoodIn wsL_holds (va_wsS RL 126 yL_course wsL_course) := goodIn_app (goodIn_of _ (by decide +kernel)) ggL_holds_L_course
set_option maxRecDepth 20000 in
theorem ggL_holds_L_gain : GoodIn wsL_holds wsL_gain := goodIn_ca (goodIn_r _ [179, 36, 37, 9, 38, 89, 90, 91, 11, 12, 92, 93, 94, 4, 95, 96, 97, 98, 99, 23, 24, 25, 26, 27, 100, 101, 102, 103, 104, 105, 106, 107, 108, 180, 181, 182, 183, 157, 184, 185, 186, 173, 187, 175, 176, 165, 166, 167, 209, 210, 211, 212, 213, 214, 215, 216, 217, 227, 228] (by decide +kernel) (by decide +kernel)) (goodIn_sub (fun _ h => List.mem_cons_of_mem _ (List.mem_append_left _ (List.mem_append_right _ h))) (by decide +kernel))
set_option maxRecDepth 20000 in
theorem gL_holds_L_gain : GoodIn wsL_holds (va_wsS RL 137 yL_gain wsL_gain) := goodIn_app (goodIn_of _ (by decide +kernel)) ggL_holds_L_gain
set_option maxRecDepth 20000 in
theorem ggL_holds_L_up : GoodIn wsL_holds wsL_up := goodIn_ca (goodIn_r _ [190, 11, 12, 191, 192, 193, 4, 194, 100, 101, 102, 23, 24, 25, 26, 27, 195, 196, 197, 198, 96, 157, 103, 104, 105, 106, 107, 108, 199, 200, 201, 62, 63, 64, 65, 170, 171, 172, 173, 174, 175, 176, 165, 166, 167, 209, 210, 211, 212, 213, 214, 215, 216, 217, 227, 228] (by decide +kernel) (by decide +kernel)) (goodIn_sub (fun _ h => List.mem_cons_of_mem _ (List.mem_append_left _ (List.mem_append_right _ h))) (by decide +kernel))
set_option maxRecDepth 20000 in
theorem gL_holds_L_up : GoodIn wsL_holds (va_wsS RL 120 yL_up wsL_up) := goodIn_app (goodIn_of _ (by decide +kernel)) ggL_holds_L_up
set_option maxRecDepth 20000 in
theorem ggL_holds_L_down : GoodIn wsL_holds wsL_down := goodIn_ca (goodIn_r _ [204, 11, 12, 205, 206, 207, 4, 208, 100, 101, 102, 23, 24, 25, 26, 27, 195, 196, 197, 198, 96, 157, 103, 104, 105, 106, 107, 108, 199, 200, 201, 62, 63, 64, 65, 170, 171, 172, 173, 174, 175, 176, 165, 166, 167, 209, 210, 211, 212, 213, 214, 215, 216, 217, 227, 228] (by decide +kernel) (by decide +kernel)) (goodIn_sub (fun _ h => List.mem_cons_of_mem _ (List.mem_append_left _ (List.mem_append_right _ h))) (by decide +kernel))
set_option maxRecDepth 20000 in
theorem gL_holds_L_down : GoodIn wsL_holds (va_wsS RL 123 yL_down wsL_down) := goodIn_app (goodIn_of _ (by decide +kernel)) ggL_holds_L_down
set_option maxRecDepth 20000 in
theorem ggL_holds_X3_sine : GoodIn wsL_holds wsX3_sine := goodIn_r _ [183, 157, 184, 185, 186, 173, 187, 175, 176, 165, 166, 167, 209, 210, 211, 212, 213, 214, 215, 216, 217, 228] (by decide +kernel) (by decide +kernel)
set_option maxRecDepth 20000 in
theorem gL_holds_X3_sine : GoodIn wsL_holds (wsV RL 141 RX3 yX3_sine wsX3_sine) := goodIn_app (goodIn_of _ (by decide +kernel)) ggL_holds_X3_sine
theorem dL_holds_0 : decode cL_holds 0 = .ok (.iconst 1, 1) := by decide +kernel
theorem dL_holds_1 : decode cL_holds 1 = .ok (.istore_n 2, 1) := by decide +kernel
theorem dL_holds_2 : decode cL_holds 2 = .ok (.iconst 0, 1) := by decide +kernel
theorem dL_holds_3 : decode cL_holds 3 = .ok (.istore_n 3, 1) := by decide +kernel
theorem dL_holds_4 : decode cL_holds 4 = .ok (.iconst 0, 1) := by decide +kernel
theorem dL_holds_5 : decode cL_holds 5 = .ok (.istore 4, 2) := by decide +kernel
theorem dL_holds_7 : decode cL_holds 7 = .ok (.iload 4, 2) := by decide +kernel
theorem dL_holds_9 : decode cL_holds 9 = .ok (.aload_n 0, 1) := by decide +kernel
theorem dL_holds_10 : decode cL_holds 10 = .ok (.invokevirtual 78, 3) := by decide +kernel
theorem dL_holds_13 : decode cL_holds 13 = .ok (.if_icmp .ge 265, 3) := by decide +kernel
theorem dL_holds_16 : decode cL_holds 16 = .ok (.iload_n 2, 1) := by decide +kernel
theorem dL_holds_17 : decode cL_holds 17 = .ok (.ifCond .eq 261, 3) := by decide +kernel
theorem dL_holds_20 : decode cL_holds 20 = .ok (.aload_n 0, 1) := by decide +kernel
theorem dL_holds_21 : decode cL_holds 21 = .ok (.iload 4, 2) := by decide +kernel
theorem dL_holds_23 : decode cL_holds 23 = .ok (.invokestatic 98, 3) := by decide +kernel
theorem dL_holds_26 : decode cL_holds 26 = .ok (.istore 5, 2) := by decide +kernel
theorem dL_holds_28 : decode cL_holds 28 = .ok (.aload_n 0, 1) := by decide +kernel
theorem dL_holds_29 : decode cL_holds 29 = .ok (.iload 4, 2) := by decide +kernel
theorem dL_holds_31 : decode cL_holds 31 = .ok (.invokestatic 100, 3) := by decide +kernel
theorem dL_holds_34 : decode cL_holds 34 = .ok (.istore 6, 2) := by decide +kernel
theorem dL_holds_36 : decode cL_holds 36 = .ok (.iload 5, 2) := by decide +kernel
theorem dL_holds_38 : decode cL_holds 38 = .ok (.bipush 40, 2) := by decide +kernel
theorem dL_holds_40 : decode cL_holds 40 = .ok (.idiv, 1) := by decide +kernel
theorem dL_holds_41 : decode cL_holds 41 = .ok (.bipush 9, 2) := by decide +kernel
theorem dL_holds_43 : decode cL_holds 43 = .ok (.if_icmp .le 8, 3) := by decide +kernel
theorem dL_holds_46 : decode cL_holds 46 = .ok (.bipush 9, 2) := by decide +kernel
theorem dL_holds_48 : decode cL_holds 48 = .ok (.goto 8, 3) := by decide +kernel
theorem dL_holds_51 : decode cL_holds 51 = .ok (.iload 5, 2) := by decide +kernel
theorem dL_holds_53 : decode cL_holds 53 = .ok (.bipush 40, 2) := by decide +kernel
theorem dL_holds_55 : decode cL_holds 55 = .ok (.idiv, 1) := by decide +kernel
theorem dL_holds_56 : decode cL_holds 56 = .ok (.istore 7, 2) := by decide +kernel
theorem dL_holds_58 : decode cL_holds 58 = .ok (.iload 6, 2) := by decide +kernel
theorem dL_holds_60 : decode cL_holds 60 = .ok (.invokestatic 134, 3) := by decide +kernel
theorem dL_holds_63 : decode cL_holds 63 = .ok (.bipush 10, 2) := by decide +kernel
theorem dL_holds_65 : decode cL_holds 65 = .ok (.idiv, 1) := by decide +kernel
theorem dL_holds_66 : decode cL_holds 66 = .ok (.istore 8, 2) := by decide +kernel
theorem dL_holds_68 : decode cL_holds 68 = .ok (.aload_n 0, 1) := by decide +kernel
theorem dL_holds_69 : decode cL_holds 69 = .ok (.iload 4, 2) := by decide +kernel
theorem dL_holds_71 : decode cL_holds 71 = .ok (.invokestatic 106, 3) := by decide +kernel
theorem dL_holds_74 : decode cL_holds 74 = .ok (.istore 9, 2) := by decide +kernel
theorem dL_holds_76 : decode cL_holds 76 = .ok (.iload_n 3, 1) := by decide +kernel
theorem dL_holds_77 : decode cL_holds 77 = .ok (.aload_n 0, 1) := by decide +kernel
theorem dL_holds_78 : decode cL_holds 78 = .ok (.iload 4, 2) := by decide +kernel
theorem dL_holds_80 : decode cL_holds 80 = .ok (.invokestatic 108, 3) := by decide +kernel
theorem dL_holds_83 : decode cL_holds 83 = .ok (.iadd, 1) := by decide +kernel
theorem dL_holds_84 : decode cL_holds 84 = .ok (.istore_n 3, 1) := by decide +kernel
theorem dL_holds_85 : decode cL_holds 85 = .ok (.iload 6, 2) := by decide +kernel
theorem dL_holds_87 : decode cL_holds 87 = .ok (.ifCond .lt 183, 3) := by decide +kernel
theorem dL_holds_90 : decode cL_holds 90 = .ok (.iload 6, 2) := by decide +kernel
theorem dL_holds_92 : decode cL_holds 92 = .ok (.sipush 360, 3) := by decide +kernel
theorem dL_holds_95 : decode cL_holds 95 = .ok (.if_icmp .ge 175, 3) := by decide +kernel
theorem dL_holds_98 : decode cL_holds 98 = .ok (.iload 5, 2) := by decide +kernel
theorem dL_holds_100 : decode cL_holds 100 = .ok (.ifCond .lt 170, 3) := by decide +kernel
theorem dL_holds_103 : decode cL_holds 103 = .ok (.aload_n 0, 1) := by decide +kernel
theorem dL_holds_104 : decode cL_holds 104 = .ok (.iload 4, 2) := by decide +kernel
theorem dL_holds_106 : decode cL_holds 106 = .ok (.invokestatic 104, 3) := by decide +kernel
theorem dL_holds_109 : decode cL_holds 109 = .ok (.iload 6, 2) := by decide +kernel
theorem dL_holds_111 : decode cL_holds 111 = .ok (.sipush 180, 3) := by decide +kernel
theorem dL_holds_114 : decode cL_holds 114 = .ok (.irem, 1) := by decide +kernel
theorem dL_holds_115 : decode cL_holds 115 = .ok (.ifCond .ne 7, 3) := by decide +kernel
theorem dL_holds_118 : decode cL_holds 118 = .ok (.iconst 0, 1) := by decide +kernel
theorem dL_holds_119 : decode cL_holds 119 = .ok (.goto 16, 3) := by decide +kernel
theorem dL_holds_122 : decode cL_holds 122 = .ok (.iload 6, 2) := by decide +kernel
theorem dL_holds_124 : decode cL_holds 124 = .ok (.sipush 180, 3) := by decide +kernel
