theorem dX6_init_466 : decode cX6_init 466 = .ok (.bipush 36, 2) := by decide +kernel
theorem dX6_init_468 : decode cX6_init 468 = .ok (.bipush 100, 2) := by decide +kernel
theorem dX6_init_470 : decode cX6_init 470 = .ok (.iastore, 1) := by decide +kernel
theorem dX6_init_471 : decode cX6_init 471 = .ok (.dup, 1) := by decide +kernel
theorem dX6_init_472 : decode cX6_init 472 = .ok (.bipush 37, 2) := by decide +kernel
theorem dX6_init_474 : decode cX6_init 474 = .ok (.bipush 100, 2) := by decide +kernel
theorem dX6_init_476 : decode cX6_init 476 = .ok (.iastore, 1) := by decide +kernel
theorem dX6_init_477 : decode cX6_init 477 = .ok (.dup, 1) := by decide +kernel
theorem dX6_init_478 : decode cX6_init 478 = .ok (.bipush 38, 2) := by decide +kernel
theorem dX6_init_480 : decode cX6_init 480 = .ok (.bipush 32, 2) := by decide +kernel
theorem dX6_init_482 : decode cX6_init 482 = .ok (.iastore, 1) := by decide +kernel
theorem dX6_init_483 : decode cX6_init 483 = .ok (.dup, 1) := by decide +kernel
theorem dX6_init_484 : decode cX6_init 484 = .ok (.bipush 39, 2) := by decide +kernel
theorem dX6_init_486 : decode cX6_init 486 = .ok (.bipush 115, 2) := by decide +kernel
theorem dX6_init_488 : decode cX6_init 488 = .ok (.iastore, 1) := by decide +kernel
theorem dX6_init_489 : decode cX6_init 489 = .ok (.dup, 1) := by decide +kernel
theorem dX6_init_490 : decode cX6_init 490 = .ok (.bipush 40, 2) := by decide +kernel
theorem dX6_init_492 : decode cX6_init 492 = .ok (.bipush 116, 2) := by decide +kernel
theorem dX6_init_494 : decode cX6_init 494 = .ok (.iastore, 1) := by decide +kernel
theorem dX6_init_495 : decode cX6_init 495 = .ok (.dup, 1) := by decide +kernel
theorem dX6_init_496 : decode cX6_init 496 = .ok (.bipush 41, 2) := by decide +kernel
theorem dX6_init_498 : decode cX6_init 498 = .ok (.bipush 97, 2) := by decide +kernel
theorem dX6_init_500 : decode cX6_init 500 = .ok (.iastore, 1) := by decide +kernel
theorem dX6_init_501 : decode cX6_init 501 = .ok (.dup, 1) := by decide +kernel
theorem dX6_init_502 : decode cX6_init 502 = .ok (.bipush 42, 2) := by decide +kernel
theorem dX6_init_504 : decode cX6_init 504 = .ok (.bipush 114, 2) := by decide +kernel
theorem dX6_init_506 : decode cX6_init 506 = .ok (.iastore, 1) := by decide +kernel
theorem dX6_init_507 : decode cX6_init 507 = .ok (.dup, 1) := by decide +kernel
theorem dX6_init_508 : decode cX6_init 508 = .ok (.bipush 43, 2) := by decide +kernel
theorem dX6_init_510 : decode cX6_init 510 = .ok (.bipush 116, 2) := by decide +kernel
theorem dX6_init_512 : decode cX6_init 512 = .ok (.iastore, 1) := by decide +kernel
theorem dX6_init_513 : decode cX6_init 513 = .ok (.dup, 1) := by decide +kernel
theorem dX6_init_514 : decode cX6_init 514 = .ok (.bipush 44, 2) := by decide +kernel
theorem dX6_init_516 : decode cX6_init 516 = .ok (.bipush 32, 2) := by decide +kernel
theorem dX6_init_518 : decode cX6_init 518 = .ok (.iastore, 1) := by decide +kernel
theorem dX6_init_519 : decode cX6_init 519 = .ok (.dup, 1) := by decide +kernel
theorem dX6_init_520 : decode cX6_init 520 = .ok (.bipush 45, 2) := by decide +kernel
theorem dX6_init_522 : decode cX6_init 522 = .ok (.bipush 109, 2) := by decide +kernel
theorem dX6_init_524 : decode cX6_init 524 = .ok (.iastore, 1) := by decide +kernel
theorem dX6_init_525 : decode cX6_init 525 = .ok (.dup, 1) := by decide +kernel
theorem dX6_init_526 : decode cX6_init 526 = .ok (.bipush 46, 2) := by decide +kernel
theorem dX6_init_528 : decode cX6_init 528 = .ok (.bipush 97, 2) := by decide +kernel
theorem dX6_init_530 : decode cX6_init 530 = .ok (.iastore, 1) := by decide +kernel
theorem dX6_init_531 : decode cX6_init 531 = .ok (.dup, 1) := by decide +kernel
theorem dX6_init_532 : decode cX6_init 532 = .ok (.bipush 47, 2) := by decide +kernel
theorem dX6_init_534 : decode cX6_init 534 = .ok (.bipush 115, 2) := by decide +kernel
theorem dX6_init_536 : decode cX6_init 536 = .ok (.iastore, 1) := by decide +kernel
theorem dX6_init_537 : decode cX6_init 537 = .ok (.dup, 1) := by decide +kernel
theorem dX6_init_538 : decode cX6_init 538 = .ok (.bipush 48, 2) := by decide +kernel
theorem dX6_init_540 : decode cX6_init 540 = .ok (.bipush 115, 2) := by decide +kernel
theorem dX6_init_542 : decode cX6_init 542 = .ok (.iastore, 1) := by decide +kernel
theorem dX6_init_543 : decode cX6_init 543 = .ok (.dup, 1) := by decide +kernel
theorem dX6_init_544 : decode cX6_init 544 = .ok (.bipush 49, 2) := by decide +kernel
theorem dX6_init_546 : decode cX6_init 546 = .ok (.bipush 32, 2) := by decide +kernel
theorem dX6_init_548 : decode cX6_init 548 = .ok (.iastore, 1) := by decide +kernel
theorem dX6_init_549 : decode cX6_init 549 = .ok (.dup, 1) := by decide +kernel
theorem dX6_init_550 : decode cX6_init 550 = .ok (.bipush 50, 2) := by decide +kernel
theorem dX6_init_552 : decode cX6_init 552 = .ok (.bipush 101, 2) := by decide +kernel
theorem dX6_init_554 : decode cX6_init 554 = .ok (.iastore, 1) := by decide +kernel
theorem dX6_init_555 : decode cX6_init 555 = .ok (.dup, 1) := by decide +kernel
theorem dX6_init_556 : decode cX6_init 556 = .ok (.bipush 51, 2) := by decide +kernel
theorem dX6_init_558 : decode cX6_init 558 = .ok (.bipush 118, 2) := by decide +kernel
theorem dX6_init_560 : decode cX6_init 560 = .ok (.iastore, 1) := by decide +kernel
theorem dX6_init_561 : decode cX6_init 561 = .ok (.dup, 1) := by decide +kernel
theorem dX6_init_562 : decode cX6_init 562 = .ok (.bipush 52, 2) := by decide +kernel
theorem dX6_init_564 : decode cX6_init 564 = .ok (.bipush 101, 2) := by decide +kernel
theorem dX6_init_566 : decode cX6_init 566 = .ok (.iastore, 1) := by decide +kernel
theorem dX6_init_567 : decode cX6_init 567 = .ok (.dup, 1) := by decide +kernel
theorem dX6_init_568 : decode cX6_init 568 = .ok (.bipush 53, 2) := by decide +kernel
theorem dX6_init_570 : decode cX6_init 570 = .ok (.bipush 114, 2) := by decide +kernel
theorem dX6_init_572 : decode cX6_init 572 = .ok (.iastore, 1) := by decide +kernel
theorem dX6_init_573 : decode cX6_init 573 = .ok (.dup, 1) := by decide +kernel
theorem dX6_init_574 : decode cX6_init 574 = .ok (.bipush 54, 2) := by decide +kernel
theorem dX6_init_576 : decode cX6_init 576 = .ok (.bipush 121, 2) := by decide +kernel
theorem dX6_init_578 : decode cX6_init 578 = .ok (.iastore, 1) := by decide +kernel
theorem dX6_init_579 : decode cX6_init 579 = .ok (.dup, 1) := by decide +kernel
theorem dX6_init_580 : decode cX6_init 580 = .ok (.bipush 55, 2) := by decide +kernel
theorem dX6_init_582 : decode cX6_init 582 = .ok (.bipush 32, 2) := by decide +kernel
theorem dX6_init_584 : decode cX6_init 584 = .ok (.iastore, 1) := by decide +kernel
theorem dX6_init_585 : decode cX6_init 585 = .ok (.dup, 1) := by decide +kernel
theorem dX6_init_586 : decode cX6_init 586 = .ok (.bipush 56, 2) := by decide +kernel
theorem dX6_init_588 : decode cX6_init 588 = .ok (.bipush 99, 2) := by decide +kernel
theorem dX6_init_590 : decode cX6_init 590 = .ok (.iastore, 1) := by decide +kernel
theorem dX6_init_591 : decode cX6_init 591 = .ok (.dup, 1) := by decide +kernel
theorem dX6_init_592 : decode cX6_init 592 = .ok (.bipush 57, 2) := by decide +kernel
theorem dX6_init_594 : decode cX6_init 594 = .ok (.bipush 104, 2) := by decide +kernel
theorem dX6_init_596 : decode cX6_init 596 = .ok (.iastore, 1) := by decide +kernel
theorem dX6_init_597 : decode cX6_init 597 = .ok (.dup, 1) := by decide +kernel
theorem dX6_init_598 : decode cX6_init 598 = .ok (.bipush 58, 2) := by decide +kernel
theorem dX6_init_600 : decode cX6_init 600 = .ok (.bipush 97, 2) := by decide +kernel
theorem dX6_init_602 : decode cX6_init 602 = .ok (.iastore, 1) := by decide +kernel
theorem dX6_init_603 : decode cX6_init 603 = .ok (.dup, 1) := by decide +kernel
theorem dX6_init_604 : decode cX6_init 604 = .ok (.bipush 59, 2) := by decide +kernel
theorem dX6_init_606 : decode cX6_init 606 = .ok (.bipush 115, 2) := by decide +kernel
theorem dX6_init_608 : decode cX6_init 608 = .ok (.iastore, 1) := by decide +kernel
theorem dX6_init_609 : decode cX6_init 609 = .ok (.dup, 1) := by decide +kernel
theorem dX6_init_610 : decode cX6_init 610 = .ok (.bipush 60, 2) := by decide +kernel
theorem dX6_init_612 : decode cX6_init 612 = .ok (.bipush 101, 2) := by decide +kernel
theorem dX6_init_614 : decode cX6_init 614 = .ok (.iastore, 1) := by decide +kernel
theorem dX6_init_615 : decode cX6_init 615 = .ok (.dup, 1) := by decide +kernel
theorem dX6_init_616 : decode cX6_init 616 = .ok (.bipush 61, 2) := by decide +kernel
theorem dX6_init_618 : decode cX6_init 618 = .ok (.bipush 32, 2) := by decide +kernel
theorem dX6_init_620 : decode cX6_init 620 = .ok (.iastore, 1) := by decide +kernel
theorem dX6_init_621 : decode cX6_init 621 = .ok (.putfield 102, 3) := by decide +kernel
theorem dX6_init_624 : decode cX6_init 624 = .ok (.aload_n 0, 1) := by decide +kernel
theorem dX6_init_625 : decode cX6_init 625 = .ok (.sipush 128, 3) := by decide +kernel
theorem dX6_init_628 : decode cX6_init 628 = .ok (.newarray .int, 2) := by decide +kernel
theorem dX6_init_630 : decode cX6_init 630 = .ok (.putfield 105, 3) := by decide +kernel
theorem dX6_init_633 : decode cX6_init 633 = .ok (.aload_n 0, 1) := by decide +kernel
theorem dX6_init_634 : decode cX6_init 634 = .ok (.sipush 128, 3) := by decide +kernel
theorem dX6_init_637 : decode cX6_init 637 = .ok (.newarray .int, 2) := by decide +kernel
theorem dX6_init_639 : decode cX6_init 639 = .ok (.putfield 108, 3) := by decide +kernel
theorem dX6_init_642 : decode cX6_init 642 = .ok (.aload_n 0, 1) := by decide +kernel
theorem dX6_init_643 : decode cX6_init 643 = .ok (.sipush 128, 3) := by decide +kernel
theorem dX6_init_646 : decode cX6_init 646 = .ok (.newarray .int, 2) := by decide +kernel
theorem dX6_init_648 : decode cX6_init 648 = .ok (.putfield 111, 3) := by decide +kernel
theorem dX6_init_651 : decode cX6_init 651 = .ok (.aload_n 0, 1) := by decide +kernel
theorem dX6_init_652 : decode cX6_init 652 = .ok (.sipush 128, 3) := by decide +kernel
theorem dX6_init_655 : decode cX6_init 655 = .ok (.newarray .int, 2) := by decide +kernel
theorem dX6_init_657 : decode cX6_init 657 = .ok (.putfield 114, 3) := by decide +kernel
theorem dX6_init_660 : decode cX6_init 660 = .ok (.aload_n 0, 1) := by decide +kernel
theorem dX6_init_661 : decode cX6_init 661 = .ok (.sipush 128, 3) := by decide +kernel
theorem dX6_init_664 : decode cX6_init 664 = .ok (.newarray .int, 2) := by decide +kernel
theorem dX6_init_666 : decode cX6_init 666 = .ok (.putfield 117, 3) := by decide +kernel
theorem dX6_init_669 : decode cX6_init 669 = .ok (.aload_n 0, 1) := by decide +kernel
theorem dX6_init_670 : decode cX6_init 670 = .ok (.bipush 16, 2) := by decide +kernel
theorem dX6_init_672 : decode cX6_init 672 = .ok (.newarray .int, 2) := by decide +kernel
theorem dX6_init_674 : decode cX6_init 674 = .ok (.putfield 120, 3) := by decide +kernel
theorem dX6_init_677 : decode cX6_init 677 = .ok (.aload_n 0, 1) := by decide +kernel
theorem dX6_init_678 : decode cX6_init 678 = .ok (.bipush 16, 2) := by decide +kernel
theorem dX6_init_680 : decode cX6_init 680 = .ok (.newarray .int, 2) := by decide +kernel
theorem dX6_init_682 : decode cX6_init 682 = .ok (.putfield 123, 3) := by decide +kernel
theorem dX6_init_685 : decode cX6_init 685 = .ok (.iconst 0, 1) := by decide +kernel
theorem dX6_init_686 : decode cX6_init 686 = .ok (.istore_n 1, 1) := by decide +kernel
theorem dX6_init_687 : decode cX6_init 687 = .ok (.iload_n 1, 1) := by decide +kernel
theorem dX6_init_688 : decode cX6_init 688 = .ok (.sipush 128, 3) := by decide +kernel
theorem dX6_init_691 : decode cX6_init 691 = .ok (.if_icmp .ge 16, 3) := by decide +kernel
theorem dX6_init_694 : decode cX6_init 694 = .ok (.aload_n 0, 1) := by decide +kernel
theorem dX6_init_695 : decode cX6_init 695 = .ok (.getfield 81, 3) := by decide +kernel
theorem dX6_init_698 : decode cX6_init 698 = .ok (.iload_n 1, 1) := by decide +kernel
theorem dX6_init_699 : decode cX6_init 699 = .ok (.iconst (-1), 1) := by decide +kernel
theorem dX6_init_700 : decode cX6_init 700 = .ok (.iastore, 1) := by decide +kernel
theorem dX6_init_701 : decode cX6_init 701 = .ok (.iinc 1 1, 3) := by decide +kernel
theorem dX6_init_704 : decode cX6_init 704 = .ok (.goto (-17), 3) := by decide +kernel
theorem dX6_init_707 : decode cX6_init 707 = .ok (.return_, 1) := by decide +kernel
theorem dX6_thrown_0 : decode cX6_thrown 0 = .ok (.aload_n 0, 1) := by decide +kernel
theorem dX6_thrown_1 : decode cX6_thrown 1 = .ok (.getfield 126, 3) := by decide +kernel
theorem dX6_thrown_4 : decode cX6_thrown 4 = .ok (.ireturn, 1) := by decide +kernel
theorem dX6_feed_0 : decode cX6_feed 0 = .ok (.aload_n 0, 1) := by decide +kernel
theorem dX6_feed_1 : decode cX6_feed 1 = .ok (.iconst 0, 1) := by decide +kernel
theorem dX6_feed_2 : decode cX6_feed 2 = .ok (.putfield 126, 3) := by decide +kernel
theorem dX6_feed_5 : decode cX6_feed 5 = .ok (.aload_n 0, 1) := by decide +kernel
theorem dX6_feed_6 : decode cX6_feed 6 = .ok (.getfield 129, 3) := by decide +kernel
theorem dX6_feed_9 : decode cX6_feed 9 = .ok (.bipush 20, 2) := by decide +kernel
theorem dX6_feed_11 : decode cX6_feed 11 = .ok (.iadd, 1) := by decide +kernel
theorem dX6_feed_12 : decode cX6_feed 12 = .ok (.sipush 1000, 3) := by decide +kernel
theorem dX6_feed_15 : decode cX6_feed 15 = .ok (.if_icmp .le 5, 3) := by decide +kernel
theorem dX6_feed_20 : decode cX6_feed 20 = .ok (.iconst 0, 1) := by decide +kernel
theorem dX6_feed_21 : decode cX6_feed 21 = .ok (.istore 6, 2) := by decide +kernel
theorem dX6_feed_23 : decode cX6_feed 23 = .ok (.iload 6, 2) := by decide +kernel
theorem dX6_feed_25 : decode cX6_feed 25 = .ok (.bipush 20, 2) := by decide +kernel
theorem dX6_feed_27 : decode cX6_feed 27 = .ok (.if_icmp .ge 86, 3) := by decide +kernel
theorem dX6_feed_30 : decode cX6_feed 30 = .ok (.iload 6, 2) := by decide +kernel
theorem dX6_feed_32 : decode cX6_feed 32 = .ok (.iconst 4, 1) := by decide +kernel
theorem dX6_feed_33 : decode cX6_feed 33 = .ok (.if_icmp .ge 7, 3) := by decide +kernel
theorem dX6_feed_36 : decode cX6_feed 36 = .ok (.iload_n 1, 1) := by decide +kernel
theorem dX6_feed_37 : decode cX6_feed 37 = .ok (.goto 39, 3) := by decide +kernel
theorem dX6_feed_40 : decode cX6_feed 40 = .ok (.iload 6, 2) := by decide +kernel
theorem dX6_feed_42 : decode cX6_feed 42 = .ok (.bipush 8, 2) := by decide +kernel
theorem dX6_feed_44 : decode cX6_feed 44 = .ok (.if_icmp .ge 7, 3) := by decide +kernel
theorem dX6_feed_47 : decode cX6_feed 47 = .ok (.iload_n 2, 1) := by decide +kernel
theorem dX6_feed_48 : decode cX6_feed 48 = .ok (.goto 28, 3) := by decide +kernel
theorem dX6_feed_51 : decode cX6_feed 51 = .ok (.iload 6, 2) := by decide +kernel
theorem dX6_feed_53 : decode cX6_feed 53 = .ok (.bipush 12, 2) := by decide +kernel
theorem dX6_feed_55 : decode cX6_feed 55 = .ok (.if_icmp .ge 7, 3) := by decide +kernel
theorem dX6_feed_58 : decode cX6_feed 58 = .ok (.iload_n 3, 1) := by decide +kernel
theorem dX6_feed_59 : decode cX6_feed 59 = .ok (.goto 17, 3) := by decide +kernel
theorem dX6_feed_62 : decode cX6_feed 62 = .ok (.iload 6, 2) := by decide +kernel
theorem dX6_feed_64 : decode cX6_feed 64 = .ok (.bipush 16, 2) := by decide +kernel
theorem dX6_feed_66 : decode cX6_feed 66 = .ok (.if_icmp .ge 8, 3) := by decide +kernel
theorem dX6_feed_69 : decode cX6_feed 69 = .ok (.iload 4, 2) := by decide +kernel
theorem dX6_feed_71 : decode cX6_feed 71 = .ok (.goto 5, 3) := by decide +kernel
theorem dX6_feed_74 : decode cX6_feed 74 = .ok (.iload 5, 2) := by decide +kernel
theorem dX6_feed_76 : decode cX6_feed 76 = .ok (.istore 7, 2) := by decide +kernel
theorem dX6_feed_78 : decode cX6_feed 78 = .ok (.aload_n 0, 1) := by decide +kernel
theorem dX6_feed_79 : decode cX6_feed 79 = .ok (.getfield 7, 3) := by decide +kernel
theorem dX6_feed_82 : decode cX6_feed 82 = .ok (.aload_n 0, 1) := by decide +kernel
theorem dX6_feed_83 : decode cX6_feed 83 = .ok (.getfield 129, 3) := by decide +kernel
theorem dX6_feed_86 : decode cX6_feed 86 = .ok (.iload 6, 2) := by decide +kernel
theorem dX6_feed_88 : decode cX6_feed 88 = .ok (.iadd, 1) := by decide +kernel
theorem dX6_feed_89 : decode cX6_feed 89 = .ok (.iload 7, 2) := by decide +kernel
theorem dX6_feed_91 : decode cX6_feed 91 = .ok (.bipush 24, 2) := by decide +kernel
theorem dX6_feed_93 : decode cX6_feed 93 = .ok (.bipush 8, 2) := by decide +kernel
theorem dX6_feed_95 : decode cX6_feed 95 = .ok (.iload 6, 2) := by decide +kernel
theorem dX6_feed_97 : decode cX6_feed 97 = .ok (.iconst 4, 1) := by decide +kernel
theorem dX6_feed_98 : decode cX6_feed 98 = .ok (.irem, 1) := by decide +kernel
theorem dX6_feed_99 : decode cX6_feed 99 = .ok (.imul, 1) := by decide +kernel
theorem dX6_feed_100 : decode cX6_feed 100 = .ok (.isub, 1) := by decide +kernel
theorem dX6_feed_101 : decode cX6_feed 101 = .ok (.ishr, 1) := by decide +kernel
theorem dX6_feed_102 : decode cX6_feed 102 = .ok (.sipush 255, 3) := by decide +kernel
theorem dX6_feed_105 : decode cX6_feed 105 = .ok (.iand, 1) := by decide +kernel
theorem dX6_feed_106 : decode cX6_feed 106 = .ok (.iastore, 1) := by decide +kernel
theorem dX6_feed_107 : decode cX6_feed 107 = .ok (.iinc 6 1, 3) := by decide +kernel
theorem dX6_feed_110 : decode cX6_feed 110 = .ok (.goto (-87), 3) := by decide +kernel
theorem dX6_feed_113 : decode cX6_feed 113 = .ok (.aload_n 0, 1) := by decide +kernel
theorem dX6_feed_114 : decode cX6_feed 114 = .ok (.dup, 1) := by decide +kernel
theorem dX6_feed_115 : decode cX6_feed 115 = .ok (.getfield 129, 3) := by decide +kernel
theorem dX6_feed_118 : decode cX6_feed 118 = .ok (.bipush 20, 2) := by decide +kernel
theorem dX6_feed_120 : decode cX6_feed 120 = .ok (.iadd, 1) := by decide +kernel
theorem dX6_feed_121 : decode cX6_feed 121 = .ok (.putfield 129, 3) := by decide +kernel
theorem dX6_feed_124 : decode cX6_feed 124 = .ok (.aload_n 0, 1) := by decide +kernel
theorem dX6_feed_125 : decode cX6_feed 125 = .ok (.getfield 129, 3) := by decide +kernel
theorem dX6_feed_128 : decode cX6_feed 128 = .ok (.ireturn, 1) := by decide +kernel
theorem dX6_take_0 : decode cX6_take 0 = .ok (.aload_n 0, 1) := by decide +kernel
theorem dX6_take_1 : decode cX6_take 1 = .ok (.getfield 138, 3) := by decide +kernel
theorem dX6_take_4 : decode cX6_take 4 = .ok (.aload_n 0, 1) := by decide +kernel
theorem dX6_take_5 : decode cX6_take 5 = .ok (.getfield 135, 3) := by decide +kernel
theorem dX6_take_8 : decode cX6_take 8 = .ok (.if_icmp .ge 44, 3) := by decide +kernel
theorem dX6_take_52 : decode cX6_take 52 = .ok (.aload_n 0, 1) := by decide +kernel
theorem dX6_take_53 : decode cX6_take 53 = .ok (.aload_n 0, 1) := by decide +kernel
theorem dX6_take_54 : decode cX6_take 54 = .ok (.getfield 138, 3) := by decide +kernel
theorem dX6_take_57 : decode cX6_take 57 = .ok (.putfield 141, 3) := by decide +kernel
theorem dX6_take_60 : decode cX6_take 60 = .ok (.aload_n 0, 1) := by decide +kernel
theorem dX6_take_61 : decode cX6_take 61 = .ok (.getfield 138, 3) := by decide +kernel
theorem dX6_take_64 : decode cX6_take 64 = .ok (.aload_n 0, 1) := by decide +kernel
theorem dX6_take_65 : decode cX6_take 65 = .ok (.getfield 135, 3) := by decide +kernel
theorem dX6_take_68 : decode cX6_take 68 = .ok (.if_icmp .ne 11, 3) := by decide +kernel
theorem dX6_take_71 : decode cX6_take 71 = .ok (.aload_n 0, 1) := by decide +kernel
theorem dX6_take_72 : decode cX6_take 72 = .ok (.iconst 0, 1) := by decide +kernel
theorem dX6_take_73 : decode cX6_take 73 = .ok (.putfield 144, 3) := by decide +kernel
theorem dX6_take_76 : decode cX6_take 76 = .ok (.goto 239, 3) := by decide +kernel
theorem dX6_take_315 : decode cX6_take 315 = .ok (.return_, 1) := by decide +kernel
theorem dX6_formats_0 : decode cX6_formats 0 = .ok (.aload_n 0, 1) := by decide +kernel
theorem dX6_formats_1 : decode cX6_formats 1 = .ok (.iconst 0, 1) := by decide +kernel
theorem dX6_formats_2 : decode cX6_formats 2 = .ok (.putfield 126, 3) := by decide +kernel
theorem dX6_formats_5 : decode cX6_formats 5 = .ok (.iload_n 1, 1) := by decide +kernel
theorem dX6_formats_6 : decode cX6_formats 6 = .ok (.ifCond .lt 11, 3) := by decide +kernel
theorem dX6_formats_9 : decode cX6_formats 9 = .ok (.iload_n 1, 1) := by decide +kernel
theorem dX6_formats_10 : decode cX6_formats 10 = .ok (.aload_n 0, 1) := by decide +kernel
theorem dX6_formats_11 : decode cX6_formats 11 = .ok (.getfield 129, 3) := by decide +kernel
theorem dX6_formats_14 : decode cX6_formats 14 = .ok (.if_icmp .le 6, 3) := by decide +kernel
theorem dX6_formats_17 : decode cX6_formats 17 = .ok (.bipush (-2), 2) := by decide +kernel
theorem dX6_formats_19 : decode cX6_formats 19 = .ok (.ireturn, 1) := by decide +kernel
theorem dX6_formats_20 : decode cX6_formats 20 = .ok (.aload_n 0, 1) := by decide +kernel
theorem dX6_formats_21 : decode cX6_formats 21 = .ok (.iload_n 1, 1) := by decide +kernel
theorem dX6_formats_22 : decode cX6_formats 22 = .ok (.putfield 135, 3) := by decide +kernel
theorem dX6_formats_25 : decode cX6_formats 25 = .ok (.aload_n 0, 1) := by decide +kernel
theorem dX6_formats_26 : decode cX6_formats 26 = .ok (.iconst 0, 1) := by decide +kernel
theorem dX6_formats_27 : decode cX6_formats 27 = .ok (.putfield 129, 3) := by decide +kernel
theorem dX6_formats_30 : decode cX6_formats 30 = .ok (.aload_n 0, 1) := by decide +kernel
theorem dX6_formats_31 : decode cX6_formats 31 = .ok (.iconst 0, 1) := by decide +kernel
theorem dX6_formats_32 : decode cX6_formats 32 = .ok (.putfield 132, 3) := by decide +kernel
theorem dX6_formats_35 : decode cX6_formats 35 = .ok (.aload_n 0, 1) := by decide +kernel
theorem dX6_formats_36 : decode cX6_formats 36 = .ok (.iconst (-1), 1) := by decide +kernel
theorem dX6_formats_37 : decode cX6_formats 37 = .ok (.putfield 38, 3) := by decide +kernel
theorem dX6_formats_40 : decode cX6_formats 40 = .ok (.bipush 8, 2) := by decide +kernel
theorem dX6_formats_42 : decode cX6_formats 42 = .ok (.istore_n 2, 1) := by decide +kernel
theorem dX6_formats_43 : decode cX6_formats 43 = .ok (.iload_n 2, 1) := by decide +kernel
theorem dX6_formats_44 : decode cX6_formats 44 = .ok (.bipush 16, 2) := by decide +kernel
theorem dX6_formats_46 : decode cX6_formats 46 = .ok (.if_icmp .ge 16, 3) := by decide +kernel
theorem dX6_formats_49 : decode cX6_formats 49 = .ok (.aload_n 0, 1) := by decide +kernel
theorem dX6_formats_50 : decode cX6_formats 50 = .ok (.getfield 13, 3) := by decide +kernel
theorem dX6_formats_53 : decode cX6_formats 53 = .ok (.iload_n 2, 1) := by decide +kernel
theorem dX6_formats_54 : decode cX6_formats 54 = .ok (.iconst 0, 1) := by decide +kernel
theorem dX6_formats_55 : decode cX6_formats 55 = .ok (.iastore, 1) := by decide +kernel
theorem dX6_formats_56 : decode cX6_formats 56 = .ok (.iinc 2 1, 3) := by decide +kernel
theorem dX6_formats_59 : decode cX6_formats 59 = .ok (.goto (-16), 3) := by decide +kernel
theorem dX6_formats_62 : decode cX6_formats 62 = .ok (.aload_n 0, 1) := by decide +kernel
theorem dX6_formats_63 : decode cX6_formats 63 = .ok (.iconst 0, 1) := by decide +kernel
theorem dX6_formats_64 : decode cX6_formats 64 = .ok (.putfield 138, 3) := by decide +kernel
theorem dX6_formats_67 : decode cX6_formats 67 = .ok (.iconst 0, 1) := by decide +kernel
theorem dX6_formats_68 : decode cX6_formats 68 = .ok (.istore_n 2, 1) := by decide +kernel
theorem dX6_formats_69 : decode cX6_formats 69 = .ok (.aload_n 0, 1) := by decide +kernel
theorem dX6_formats_70 : decode cX6_formats 70 = .ok (.invokevirtual 166, 3) := by decide +kernel
theorem dX6_formats_73 : decode cX6_formats 73 = .ok (.aload_n 0, 1) := by decide +kernel
theorem dX6_formats_74 : decode cX6_formats 74 = .ok (.getfield 144, 3) := by decide +kernel
theorem dX6_formats_77 : decode cX6_formats 77 = .ok (.ifCond .eq 18, 3) := by decide +kernel
theorem dX6_formats_95 : decode cX6_formats 95 = .ok (.aload_n 0, 1) := by decide +kernel
theorem dX6_formats_96 : decode cX6_formats 96 = .ok (.iload_n 2, 1) := by decide +kernel
theorem dX6_formats_97 : decode cX6_formats 97 = .ok (.putfield 191, 3) := by decide +kernel
theorem dX6_formats_100 : decode cX6_formats 100 = .ok (.iconst 0, 1) := by decide +kernel
theorem dX6_formats_101 : decode cX6_formats 101 = .ok (.istore_n 3, 1) := by decide +kernel
theorem dX6_formats_102 : decode cX6_formats 102 = .ok (.iload_n 3, 1) := by decide +kernel
theorem dX6_formats_103 : decode cX6_formats 103 = .ok (.bipush 8, 2) := by decide +kernel
theorem dX6_formats_105 : decode cX6_formats 105 = .ok (.if_icmp .ge 114, 3) := by decide +kernel
theorem dX6_formats_108 : decode cX6_formats 108 = .ok (.aload_n 0, 1) := by decide +kernel
theorem dX6_formats_109 : decode cX6_formats 109 = .ok (.getfield 13, 3) := by decide +kernel
theorem dX6_formats_112 : decode cX6_formats 112 = .ok (.iload_n 3, 1) := by decide +kernel
theorem dX6_formats_113 : decode cX6_formats 113 = .ok (.aload_n 0, 1) := by decide +kernel
theorem dX6_formats_114 : decode cX6_formats 114 = .ok (.getfield 13, 3) := by decide +kernel
theorem dX6_formats_117 : decode cX6_formats 117 = .ok (.bipush 8, 2) := by decide +kernel
theorem dX6_formats_119 : decode cX6_formats 119 = .ok (.iload_n 3, 1) := by decide +kernel
theorem dX6_formats_120 : decode cX6_formats 120 = .ok (.iadd, 1) := by decide +kernel
theorem dX6_formats_121 : decode cX6_formats 121 = .ok (.iaload, 1) := by decide +kernel
theorem dX6_formats_122 : decode cX6_formats 122 = .ok (.iastore, 1) := by decide +kernel
theorem dX6_formats_123 : decode cX6_formats 123 = .ok (.aload_n 0, 1) := by decide +kernel
theorem dX6_formats_124 : decode cX6_formats 124 = .ok (.getfield 16, 3) := by decide +kernel
theorem dX6_formats_127 : decode cX6_formats 127 = .ok (.iload_n 3, 1) := by decide +kernel
theorem dX6_formats_128 : decode cX6_formats 128 = .ok (.aload_n 0, 1) := by decide +kernel
theorem dX6_formats_129 : decode cX6_formats 129 = .ok (.getfield 16, 3) := by decide +kernel
theorem dX6_formats_132 : decode cX6_formats 132 = .ok (.bipush 8, 2) := by decide +kernel
theorem dX6_formats_134 : decode cX6_formats 134 = .ok (.iload_n 3, 1) := by decide +kernel
theorem dX6_formats_135 : decode cX6_formats 135 = .ok (.iadd, 1) := by decide +kernel
theorem dX6_formats_136 : decode cX6_formats 136 = .ok (.iaload, 1) := by decide +kernel
theorem dX6_formats_137 : decode cX6_formats 137 = .ok (.iastore, 1) := by decide +kernel
theorem dX6_formats_138 : decode cX6_formats 138 = .ok (.aload_n 0, 1) := by decide +kernel
theorem dX6_formats_139 : decode cX6_formats 139 = .ok (.getfield 22, 3) := by decide +kernel
theorem dX6_formats_142 : decode cX6_formats 142 = .ok (.iload_n 3, 1) := by decide +kernel
theorem dX6_formats_143 : decode cX6_formats 143 = .ok (.aload_n 0, 1) := by decide +kernel
theorem dX6_formats_144 : decode cX6_formats 144 = .ok (.getfield 22, 3) := by decide +kernel
theorem dX6_formats_147 : decode cX6_formats 147 = .ok (.bipush 8, 2) := by decide +kernel
theorem dX6_formats_149 : decode cX6_formats 149 = .ok (.iload_n 3, 1) := by decide +kernel
theorem dX6_formats_150 : decode cX6_formats 150 = .ok (.iadd, 1) := by decide +kernel
theorem dX6_formats_151 : decode cX6_formats 151 = .ok (.iaload, 1) := by decide +kernel
theorem dX6_formats_152 : decode cX6_formats 152 = .ok (.iastore, 1) := by decide +kernel
theorem dX6_formats_153 : decode cX6_formats 153 = .ok (.aload_n 0, 1) := by decide +kernel
theorem dX6_formats_154 : decode cX6_formats 154 = .ok (.getfield 25, 3) := by decide +kernel
theorem dX6_formats_157 : decode cX6_formats 157 = .ok (.iload_n 3, 1) := by decide +kernel
theorem dX6_formats_158 : decode cX6_formats 158 = .ok (.aload_n 0, 1) := by decide +kernel
theorem dX6_formats_159 : decode cX6_formats 159 = .ok (.getfield 25, 3) := by decide +kernel
theorem dX6_formats_162 : decode cX6_formats 162 = .ok (.bipush 8, 2) := by decide +kernel
theorem dX6_formats_164 : decode cX6_formats 164 = .ok (.iload_n 3, 1) := by decide +kernel
theorem dX6_formats_165 : decode cX6_formats 165 = .ok (.iadd, 1) := by decide +kernel
theorem dX6_formats_166 : decode cX6_formats 166 = .ok (.baload, 1) := by decide +kernel
theorem dX6_formats_167 : decode cX6_formats 167 = .ok (.bastore, 1) := by decide +kernel
theorem dX6_formats_168 : decode cX6_formats 168 = .ok (.aload_n 0, 1) := by decide +kernel
theorem dX6_formats_169 : decode cX6_formats 169 = .ok (.getfield 29, 3) := by decide +kernel
theorem dX6_formats_172 : decode cX6_formats 172 = .ok (.iload_n 3, 1) := by decide +kernel
theorem dX6_formats_173 : decode cX6_formats 173 = .ok (.aload_n 0, 1) := by decide +kernel
theorem dX6_formats_174 : decode cX6_formats 174 = .ok (.getfield 29, 3) := by decide +kernel
theorem dX6_formats_177 : decode cX6_formats 177 = .ok (.bipush 8, 2) := by decide +kernel
theorem dX6_formats_179 : decode cX6_formats 179 = .ok (.iload_n 3, 1) := by decide +kernel
theorem dX6_formats_180 : decode cX6_formats 180 = .ok (.iadd, 1) := by decide +kernel
theorem dX6_formats_181 : decode cX6_formats 181 = .ok (.iaload, 1) := by decide +kernel
theorem dX6_formats_182 : decode cX6_formats 182 = .ok (.iastore, 1) := by decide +kernel
theorem dX6_formats_183 : decode cX6_formats 183 = .ok (.aload_n 0, 1) := by decide +kernel
theorem dX6_formats_184 : decode cX6_formats 184 = .ok (.getfield 32, 3) := by decide +kernel
theorem dX6_formats_187 : decode cX6_formats 187 = .ok (.iload_n 3, 1) := by decide +kernel
theorem dX6_formats_188 : decode cX6_formats 188 = .ok (.aload_n 0, 1) := by decide +kernel
theorem dX6_formats_189 : decode cX6_formats 189 = .ok (.getfield 32, 3) := by decide +kernel
theorem dX6_formats_192 : decode cX6_formats 192 = .ok (.bipush 8, 2) := by decide +kernel
theorem dX6_formats_194 : decode cX6_formats 194 = .ok (.iload_n 3, 1) := by decide +kernel
theorem dX6_formats_195 : decode cX6_formats 195 = .ok (.iadd, 1) := by decide +kernel
theorem dX6_formats_196 : decode cX6_formats 196 = .ok (.iaload, 1) := by decide +kernel
theorem dX6_formats_197 : decode cX6_formats 197 = .ok (.iastore, 1) := by decide +kernel
theorem dX6_formats_198 : decode cX6_formats 198 = .ok (.aload_n 0, 1) := by decide +kernel
theorem dX6_formats_199 : decode cX6_formats 199 = .ok (.getfield 35, 3) := by decide +kernel
theorem dX6_formats_202 : decode cX6_formats 202 = .ok (.iload_n 3, 1) := by decide +kernel
theorem dX6_formats_203 : decode cX6_formats 203 = .ok (.aload_n 0, 1) := by decide +kernel
theorem dX6_formats_204 : decode cX6_formats 204 = .ok (.getfield 35, 3) := by decide +kernel
theorem dX6_formats_207 : decode cX6_formats 207 = .ok (.bipush 8, 2) := by decide +kernel
theorem dX6_formats_209 : decode cX6_formats 209 = .ok (.iload_n 3, 1) := by decide +kernel
theorem dX6_formats_210 : decode cX6_formats 210 = .ok (.iadd, 1) := by decide +kernel
theorem dX6_formats_211 : decode cX6_formats 211 = .ok (.iaload, 1) := by decide +kernel
theorem dX6_formats_212 : decode cX6_formats 212 = .ok (.iastore, 1) := by decide +kernel
theorem dX6_formats_213 : decode cX6_formats 213 = .ok (.iinc 3 1, 3) := by decide +kernel
theorem dX6_formats_216 : decode cX6_formats 216 = .ok (.goto (-114), 3) := by decide +kernel
theorem dX6_formats_219 : decode cX6_formats 219 = .ok (.iload_n 2, 1) := by decide +kernel
theorem dX6_formats_220 : decode cX6_formats 220 = .ok (.ireturn, 1) := by decide +kernel
theorem dX6_fault_0 : decode cX6_fault 0 = .ok (.aload_n 0, 1) := by decide +kernel
theorem dX6_fault_1 : decode cX6_fault 1 = .ok (.iconst 0, 1) := by decide +kernel
theorem dX6_fault_2 : decode cX6_fault 2 = .ok (.putfield 126, 3) := by decide +kernel
theorem dX6_fault_5 : decode cX6_fault 5 = .ok (.iload_n 1, 1) := by decide +kernel
theorem dX6_fault_6 : decode cX6_fault 6 = .ok (.ifCond .ne 10, 3) := by decide +kernel
theorem dX6_fault_9 : decode cX6_fault 9 = .ok (.aload_n 0, 1) := by decide +kernel
theorem dX6_fault_10 : decode cX6_fault 10 = .ok (.getfield 132, 3) := by decide +kernel
theorem dX6_fault_13 : decode cX6_fault 13 = .ok (.goto 16, 3) := by decide +kernel
theorem dX6_fault_16 : decode cX6_fault 16 = .ok (.iload_n 1, 1) := by decide +kernel
theorem dX6_fault_17 : decode cX6_fault 17 = .ok (.iconst 1, 1) := by decide +kernel
theorem dX6_fault_18 : decode cX6_fault 18 = .ok (.if_icmp .ne 10, 3) := by decide +kernel
theorem dX6_fault_21 : decode cX6_fault 21 = .ok (.aload_n 0, 1) := by decide +kernel
theorem dX6_fault_22 : decode cX6_fault 22 = .ok (.getfield 38, 3) := by decide +kernel
theorem dX6_fault_25 : decode cX6_fault 25 = .ok (.goto 4, 3) := by decide +kernel
theorem dX6_fault_28 : decode cX6_fault 28 = .ok (.iconst (-1), 1) := by decide +kernel
theorem dX6_fault_29 : decode cX6_fault 29 = .ok (.ireturn, 1) := by decide +kernel
theorem dX6_pass_0 : decode cX6_pass 0 = .ok (.aload_n 0, 1) := by decide +kernel
theorem dX6_pass_1 : decode cX6_pass 1 = .ok (.iconst 0, 1) := by decide +kernel
theorem dX6_pass_2 : decode cX6_pass 2 = .ok (.putfield 126, 3) := by decide +kernel
theorem dX6_pass_5 : decode cX6_pass 5 = .ok (.iload_n 1, 1) := by decide +kernel
theorem dX6_pass_6 : decode cX6_pass 6 = .ok (.ifCond .lt 22, 3) := by decide +kernel
theorem dX6_pass_9 : decode cX6_pass 9 = .ok (.iload_n 1, 1) := by decide +kernel
theorem dX6_pass_10 : decode cX6_pass 10 = .ok (.sipush 200, 3) := by decide +kernel
theorem dX6_pass_13 : decode cX6_pass 13 = .ok (.if_icmp .gt 15, 3) := by decide +kernel
theorem dX6_pass_16 : decode cX6_pass 16 = .ok (.aload_n 0, 1) := by decide +kernel
theorem dX6_pass_17 : decode cX6_pass 17 = .ok (.getfield 194, 3) := by decide +kernel
theorem dX6_pass_20 : decode cX6_pass 20 = .ok (.iload_n 1, 1) := by decide +kernel
theorem dX6_pass_21 : decode cX6_pass 21 = .ok (.iadd, 1) := by decide +kernel
theorem dX6_pass_22 : decode cX6_pass 22 = .ok (.sipush 200, 3) := by decide +kernel
theorem dX6_pass_25 : decode cX6_pass 25 = .ok (.if_icmp .le 5, 3) := by decide +kernel
theorem dX6_pass_28 : decode cX6_pass 28 = .ok (.iconst (-1), 1) := by decide +kernel
theorem dX6_pass_29 : decode cX6_pass 29 = .ok (.ireturn, 1) := by decide +kernel
theorem dX6_pass_30 : decode cX6_pass 30 = .ok (.aload_n 0, 1) := by decide +kernel
theorem dX6_pass_31 : decode cX6_pass 31 = .ok (.dup, 1) := by decide +kernel
theorem dX6_pass_32 : decode cX6_pass 32 = .ok (.getfield 194, 3) := by decide +kernel
theorem dX6_pass_35 : decode cX6_pass 35 = .ok (.iload_n 1, 1) := by decide +kernel
theorem dX6_pass_36 : decode cX6_pass 36 = .ok (.iadd, 1) := by decide +kernel
theorem dX6_pass_37 : decode cX6_pass 37 = .ok (.putfield 194, 3) := by decide +kernel
theorem dX6_pass_40 : decode cX6_pass 40 = .ok (.aload_n 0, 1) := by decide +kernel
theorem dX6_pass_41 : decode cX6_pass 41 = .ok (.getfield 194, 3) := by decide +kernel
theorem dX6_pass_44 : decode cX6_pass 44 = .ok (.ireturn, 1) := by decide +kernel
theorem dX6_racer_0 : decode cX6_racer 0 = .ok (.aload_n 0, 1) := by decide +kernel
theorem dX6_racer_1 : decode cX6_racer 1 = .ok (.iconst 0, 1) := by decide +kernel
theorem dX6_racer_2 : decode cX6_racer 2 = .ok (.putfield 126, 3) := by decide +kernel
theorem dX6_racer_5 : decode cX6_racer 5 = .ok (.iload_n 1, 1) := by decide +kernel
theorem dX6_racer_6 : decode cX6_racer 6 = .ok (.ifCond .lt 18, 3) := by decide +kernel
theorem dX6_racer_9 : decode cX6_racer 9 = .ok (.iload_n 1, 1) := by decide +kernel
theorem dX6_racer_10 : decode cX6_racer 10 = .ok (.bipush 7, 2) := by decide +kernel
theorem dX6_racer_12 : decode cX6_racer 12 = .ok (.if_icmp .gt 12, 3) := by decide +kernel
theorem dX6_racer_15 : decode cX6_racer 15 = .ok (.aload_n 0, 1) := by decide +kernel
theorem dX6_racer_16 : decode cX6_racer 16 = .ok (.getfield 197, 3) := by decide +kernel
theorem dX6_racer_19 : decode cX6_racer 19 = .ok (.bipush 16, 2) := by decide +kernel
theorem dX6_racer_21 : decode cX6_racer 21 = .ok (.if_icmp .ne 5, 3) := by decide +kernel
theorem dX6_racer_24 : decode cX6_racer 24 = .ok (.iconst (-1), 1) := by decide +kernel
theorem dX6_racer_25 : decode cX6_racer 25 = .ok (.ireturn, 1) := by decide +kernel
theorem dX6_racer_26 : decode cX6_racer 26 = .ok (.aload_n 0, 1) := by decide +kernel
theorem dX6_racer_27 : decode cX6_racer 27 = .ok (.getfield 42, 3) := by decide +kernel
theorem dX6_racer_30 : decode cX6_racer 30 = .ok (.aload_n 0, 1) := by decide +kernel
theorem dX6_racer_31 : decode cX6_racer 31 = .ok (.getfield 197, 3) := by decide +kernel
theorem dX6_racer_34 : decode cX6_racer 34 = .ok (.iload_n 1, 1) := by decide +kernel
theorem dX6_racer_35 : decode cX6_racer 35 = .ok (.iastore, 1) := by decide +kernel
theorem dX6_racer_36 : decode cX6_racer 36 = .ok (.aload_n 0, 1) := by decide +kernel
theorem dX6_racer_37 : decode cX6_racer 37 = .ok (.dup, 1) := by decide +kernel
theorem dX6_racer_38 : decode cX6_racer 38 = .ok (.getfield 197, 3) := by decide +kernel
theorem dX6_racer_41 : decode cX6_racer 41 = .ok (.iconst 1, 1) := by decide +kernel
theorem dX6_racer_42 : decode cX6_racer 42 = .ok (.iadd, 1) := by decide +kernel
theorem dX6_racer_43 : decode cX6_racer 43 = .ok (.putfield 197, 3) := by decide +kernel
theorem dX6_racer_46 : decode cX6_racer 46 = .ok (.aload_n 0, 1) := by decide +kernel
theorem dX6_racer_47 : decode cX6_racer 47 = .ok (.getfield 197, 3) := by decide +kernel
theorem dX6_racer_50 : decode cX6_racer 50 = .ok (.iconst 1, 1) := by decide +kernel
theorem dX6_racer_51 : decode cX6_racer 51 = .ok (.isub, 1) := by decide +kernel
theorem dX6_racer_52 : decode cX6_racer 52 = .ok (.ireturn, 1) := by decide +kernel
theorem dX6_isRace_0 : decode cX6_isRace 0 = .ok (.iload_n 1, 1) := by decide +kernel
theorem dX6_isRace_1 : decode cX6_isRace 1 = .ok (.ifCond .lt 15, 3) := by decide +kernel
theorem dX6_isRace_4 : decode cX6_isRace 4 = .ok (.iload_n 1, 1) := by decide +kernel
theorem dX6_isRace_5 : decode cX6_isRace 5 = .ok (.aload_n 0, 1) := by decide +kernel
theorem dX6_isRace_6 : decode cX6_isRace 6 = .ok (.getfield 200, 3) := by decide +kernel
theorem dX6_isRace_9 : decode cX6_isRace 9 = .ok (.if_icmp .ge 7, 3) := by decide +kernel
theorem dX6_isRace_16 : decode cX6_isRace 16 = .ok (.iconst 0, 1) := by decide +kernel
theorem dX6_isRace_17 : decode cX6_isRace 17 = .ok (.ireturn, 1) := by decide +kernel
theorem dX6_isRacer_0 : decode cX6_isRacer 0 = .ok (.iload_n 1, 1) := by decide +kernel
theorem dX6_isRacer_1 : decode cX6_isRacer 1 = .ok (.ifCond .lt 15, 3) := by decide +kernel
theorem dX6_isRacer_4 : decode cX6_isRacer 4 = .ok (.iload_n 1, 1) := by decide +kernel
theorem dX6_isRacer_5 : decode cX6_isRacer 5 = .ok (.aload_n 0, 1) := by decide +kernel
theorem dX6_isRacer_6 : decode cX6_isRacer 6 = .ok (.getfield 197, 3) := by decide +kernel
theorem dX6_isRacer_9 : decode cX6_isRacer 9 = .ok (.if_icmp .ge 7, 3) := by decide +kernel
theorem dX6_isRacer_16 : decode cX6_isRacer 16 = .ok (.iconst 0, 1) := by decide +kernel
theorem dX6_isRacer_17 : decode cX6_isRacer 17 = .ok (.ireturn, 1) := by decide +kernel
theorem dX6_race_0 : decode cX6_race 0 = .ok (.aload_n 0, 1) := by decide +kernel
theorem dX6_race_1 : decode cX6_race 1 = .ok (.iconst 0, 1) := by decide +kernel
theorem dX6_race_2 : decode cX6_race 2 = .ok (.putfield 126, 3) := by decide +kernel
theorem dX6_race_5 : decode cX6_race 5 = .ok (.iload_n 1, 1) := by decide +kernel
theorem dX6_race_6 : decode cX6_race 6 = .ok (.ifCond .lt 27, 3) := by decide +kernel
theorem dX6_race_9 : decode cX6_race 9 = .ok (.iload_n 1, 1) := by decide +kernel
theorem dX6_race_10 : decode cX6_race 10 = .ok (.bipush 7, 2) := by decide +kernel
theorem dX6_race_12 : decode cX6_race 12 = .ok (.if_icmp .gt 21, 3) := by decide +kernel
theorem dX6_race_15 : decode cX6_race 15 = .ok (.aload_n 0, 1) := by decide +kernel
theorem dX6_race_16 : decode cX6_race 16 = .ok (.getfield 13, 3) := by decide +kernel
theorem dX6_race_19 : decode cX6_race 19 = .ok (.iload_n 1, 1) := by decide +kernel
theorem dX6_race_20 : decode cX6_race 20 = .ok (.iaload, 1) := by decide +kernel
theorem dX6_race_21 : decode cX6_race 21 = .ok (.ifCond .eq 12, 3) := by decide +kernel
theorem dX6_race_33 : decode cX6_race 33 = .ok (.iconst (-1), 1) := by decide +kernel
theorem dX6_race_34 : decode cX6_race 34 = .ok (.ireturn, 1) := by decide +kernel
theorem dX6_enter_0 : decode cX6_enter 0 = .ok (.aload_n 0, 1) := by decide +kernel
theorem dX6_enter_1 : decode cX6_enter 1 = .ok (.iconst 0, 1) := by decide +kernel
theorem dX6_enter_2 : decode cX6_enter 2 = .ok (.putfield 126, 3) := by decide +kernel
theorem dX6_enter_5 : decode cX6_enter 5 = .ok (.aload_n 0, 1) := by decide +kernel
theorem dX6_enter_6 : decode cX6_enter 6 = .ok (.iload_n 1, 1) := by decide +kernel
theorem dX6_enter_7 : decode cX6_enter 7 = .ok (.invokevirtual 203, 3) := by decide +kernel
theorem dX6_enter_10 : decode cX6_enter 10 = .ok (.ifCond .eq 34, 3) := by decide +kernel
theorem dX6_enter_44 : decode cX6_enter 44 = .ok (.iconst (-1), 1) := by decide +kernel
theorem dX6_enter_45 : decode cX6_enter 45 = .ok (.ireturn, 1) := by decide +kernel
theorem dX6_isIn_0 : decode cX6_isIn 0 = .ok (.aload_n 0, 1) := by decide +kernel
theorem dX6_isIn_1 : decode cX6_isIn 1 = .ok (.iload_n 1, 1) := by decide +kernel
theorem dX6_isIn_2 : decode cX6_isIn 2 = .ok (.invokevirtual 203, 3) := by decide +kernel
theorem dX6_isIn_5 : decode cX6_isIn 5 = .ok (.ifCond .eq 29, 3) := by decide +kernel
theorem dX6_isIn_34 : decode cX6_isIn 34 = .ok (.iconst 0, 1) := by decide +kernel
theorem dX6_isIn_35 : decode cX6_isIn 35 = .ok (.ireturn, 1) := by decide +kernel
theorem dX6_tell_0 : decode cX6_tell 0 = .ok (.aload_n 0, 1) := by decide +kernel
theorem dX6_tell_1 : decode cX6_tell 1 = .ok (.iconst 0, 1) := by decide +kernel
theorem dX6_tell_2 : decode cX6_tell 2 = .ok (.putfield 126, 3) := by decide +kernel
theorem dX6_tell_5 : decode cX6_tell 5 = .ok (.aload_n 0, 1) := by decide +kernel
theorem dX6_tell_6 : decode cX6_tell 6 = .ok (.iload_n 1, 1) := by decide +kernel
theorem dX6_tell_7 : decode cX6_tell 7 = .ok (.iload_n 2, 1) := by decide +kernel
theorem dX6_tell_8 : decode cX6_tell 8 = .ok (.invokevirtual 210, 3) := by decide +kernel
theorem dX6_tell_11 : decode cX6_tell 11 = .ok (.ifCond .eq 26, 3) := by decide +kernel
theorem dX6_tell_37 : decode cX6_tell 37 = .ok (.iconst (-1), 1) := by decide +kernel
theorem dX6_tell_38 : decode cX6_tell 38 = .ok (.ireturn, 1) := by decide +kernel
theorem dX6_fails_0 : decode cX6_fails 0 = .ok (.aload_n 0, 1) := by decide +kernel
theorem dX6_fails_1 : decode cX6_fails 1 = .ok (.iload_n 1, 1) := by decide +kernel
theorem dX6_fails_2 : decode cX6_fails 2 = .ok (.putfield 126, 3) := by decide +kernel
theorem dX6_fails_5 : decode cX6_fails 5 = .ok (.iconst 0, 1) := by decide +kernel
theorem dX6_fails_6 : decode cX6_fails 6 = .ok (.ireturn, 1) := by decide +kernel
theorem dX6_look_0 : decode cX6_look 0 = .ok (.aload_n 0, 1) := by decide +kernel
theorem dX6_look_1 : decode cX6_look 1 = .ok (.iconst 0, 1) := by decide +kernel
theorem dX6_look_2 : decode cX6_look 2 = .ok (.putfield 126, 3) := by decide +kernel
theorem dX6_look_5 : decode cX6_look 5 = .ok (.aload_n 0, 1) := by decide +kernel
theorem dX6_look_6 : decode cX6_look 6 = .ok (.iload_n 1, 1) := by decide +kernel
theorem dX6_look_7 : decode cX6_look 7 = .ok (.invokevirtual 203, 3) := by decide +kernel
theorem dX6_look_10 : decode cX6_look 10 = .ok (.ifCond .ne 9, 3) := by decide +kernel
theorem dX6_look_13 : decode cX6_look 13 = .ok (.aload_n 0, 1) := by decide +kernel
theorem dX6_look_14 : decode cX6_look 14 = .ok (.iconst 1, 1) := by decide +kernel
theorem dX6_look_15 : decode cX6_look 15 = .ok (.invokevirtual 220, 3) := by decide +kernel
theorem dX6_look_18 : decode cX6_look 18 = .ok (.ireturn, 1) := by decide +kernel
theorem dX6_entry_0 : decode cX6_entry 0 = .ok (.aload_n 0, 1) := by decide +kernel
theorem dX6_entry_1 : decode cX6_entry 1 = .ok (.iconst 0, 1) := by decide +kernel
theorem dX6_entry_2 : decode cX6_entry 2 = .ok (.putfield 126, 3) := by decide +kernel
theorem dX6_entry_5 : decode cX6_entry 5 = .ok (.aload_n 0, 1) := by decide +kernel
theorem dX6_entry_6 : decode cX6_entry 6 = .ok (.iload_n 1, 1) := by decide +kernel
theorem dX6_entry_7 : decode cX6_entry 7 = .ok (.invokevirtual 203, 3) := by decide +kernel
theorem dX6_entry_10 : decode cX6_entry 10 = .ok (.ifCond .eq 17, 3) := by decide +kernel
theorem dX6_entry_27 : decode cX6_entry 27 = .ok (.iconst (-1), 1) := by decide +kernel
theorem dX6_entry_28 : decode cX6_entry 28 = .ok (.goto 14, 3) := by decide +kernel
theorem dX6_entry_42 : decode cX6_entry 42 = .ok (.ireturn, 1) := by decide +kernel
theorem dX6_workAll_0 : decode cX6_workAll 0 = .ok (.iconst 0, 1) := by decide +kernel
theorem dX6_workAll_1 : decode cX6_workAll 1 = .ok (.istore_n 3, 1) := by decide +kernel
theorem dX6_workAll_2 : decode cX6_workAll 2 = .ok (.iload_n 3, 1) := by decide +kernel
theorem dX6_workAll_3 : decode cX6_workAll 3 = .ok (.iload_n 1, 1) := by decide +kernel
theorem dX6_workAll_4 : decode cX6_workAll 4 = .ok (.if_icmp .gt 47, 3) := by decide +kernel
theorem dX6_workAll_51 : decode cX6_workAll 51 = .ok (.return_, 1) := by decide +kernel
theorem dX6_isDay_0 : decode cX6_isDay 0 = .ok (.iload_n 1, 1) := by decide +kernel
theorem dX6_isDay_1 : decode cX6_isDay 1 = .ok (.ifCond .lt 15, 3) := by decide +kernel
theorem dX6_isDay_4 : decode cX6_isDay 4 = .ok (.iload_n 1, 1) := by decide +kernel
theorem dX6_isDay_5 : decode cX6_isDay 5 = .ok (.aload_n 0, 1) := by decide +kernel
theorem dX6_isDay_6 : decode cX6_isDay 6 = .ok (.getfield 194, 3) := by decide +kernel
theorem dX6_isDay_9 : decode cX6_isDay 9 = .ok (.if_icmp .gt 7, 3) := by decide +kernel
theorem dX6_isDay_12 : decode cX6_isDay 12 = .ok (.iconst 1, 1) := by decide +kernel
theorem dX6_isDay_13 : decode cX6_isDay 13 = .ok (.goto 4, 3) := by decide +kernel
theorem dX6_isDay_16 : decode cX6_isDay 16 = .ok (.iconst 0, 1) := by decide +kernel
theorem dX6_isDay_17 : decode cX6_isDay 17 = .ok (.ireturn, 1) := by decide +kernel
theorem dX6_time_0 : decode cX6_time 0 = .ok (.aload_n 0, 1) := by decide +kernel
theorem dX6_time_1 : decode cX6_time 1 = .ok (.iconst 0, 1) := by decide +kernel
theorem dX6_time_2 : decode cX6_time 2 = .ok (.putfield 126, 3) := by decide +kernel
theorem dX6_time_5 : decode cX6_time 5 = .ok (.aload_n 0, 1) := by decide +kernel
theorem dX6_time_6 : decode cX6_time 6 = .ok (.iload_n 1, 1) := by decide +kernel
theorem dX6_time_7 : decode cX6_time 7 = .ok (.iload_n 2, 1) := by decide +kernel
theorem dX6_time_8 : decode cX6_time 8 = .ok (.invokevirtual 210, 3) := by decide +kernel
theorem dX6_time_11 : decode cX6_time 11 = .ok (.ifCond .eq 23, 3) := by decide +kernel
theorem dX6_time_34 : decode cX6_time 34 = .ok (.bipush (-2), 2) := by decide +kernel
theorem dX6_time_36 : decode cX6_time 36 = .ok (.ireturn, 1) := by decide +kernel
theorem dX6_split_0 : decode cX6_split 0 = .ok (.aload_n 0, 1) := by decide +kernel
theorem dX6_split_1 : decode cX6_split 1 = .ok (.iconst 0, 1) := by decide +kernel
theorem dX6_split_2 : decode cX6_split 2 = .ok (.putfield 126, 3) := by decide +kernel
theorem dX6_split_5 : decode cX6_split 5 = .ok (.aload_n 0, 1) := by decide +kernel
theorem dX6_split_6 : decode cX6_split 6 = .ok (.iload_n 1, 1) := by decide +kernel
theorem dX6_split_7 : decode cX6_split 7 = .ok (.iload_n 2, 1) := by decide +kernel
theorem dX6_split_8 : decode cX6_split 8 = .ok (.invokevirtual 210, 3) := by decide +kernel
theorem dX6_split_11 : decode cX6_split 11 = .ok (.ifCond .eq 27, 3) := by decide +kernel
theorem dX6_split_38 : decode cX6_split 38 = .ok (.bipush (-2), 2) := by decide +kernel
theorem dX6_split_40 : decode cX6_split 40 = .ok (.ireturn, 1) := by decide +kernel
theorem dX6_order_0 : decode cX6_order 0 = .ok (.aload_n 0, 1) := by decide +kernel
theorem dX6_order_1 : decode cX6_order 1 = .ok (.iconst 0, 1) := by decide +kernel
theorem dX6_order_2 : decode cX6_order 2 = .ok (.putfield 126, 3) := by decide +kernel
theorem dX6_order_5 : decode cX6_order 5 = .ok (.aload_n 0, 1) := by decide +kernel
theorem dX6_order_6 : decode cX6_order 6 = .ok (.iload_n 1, 1) := by decide +kernel
theorem dX6_order_7 : decode cX6_order 7 = .ok (.invokevirtual 203, 3) := by decide +kernel
theorem dX6_order_10 : decode cX6_order 10 = .ok (.ifCond .eq 11, 3) := by decide +kernel
theorem dX6_order_21 : decode cX6_order 21 = .ok (.iconst (-1), 1) := by decide +kernel
theorem dX6_order_22 : decode cX6_order 22 = .ok (.ireturn, 1) := by decide +kernel
theorem dX6_cup_0 : decode cX6_cup 0 = .ok (.aload_n 0, 1) := by decide +kernel
theorem dX6_cup_1 : decode cX6_cup 1 = .ok (.aload_n 0, 1) := by decide +kernel
theorem dX6_cup_2 : decode cX6_cup 2 = .ok (.getfield 200, 3) := by decide +kernel
theorem dX6_cup_5 : decode cX6_cup 5 = .ok (.iconst 1, 1) := by decide +kernel
theorem dX6_cup_6 : decode cX6_cup 6 = .ok (.isub, 1) := by decide +kernel
theorem dX6_cup_7 : decode cX6_cup 7 = .ok (.iload_n 1, 1) := by decide +kernel
theorem dX6_cup_8 : decode cX6_cup 8 = .ok (.invokevirtual 244, 3) := by decide +kernel
theorem dX6_cup_11 : decode cX6_cup 11 = .ok (.iconst 0, 1) := by decide +kernel
theorem dX6_cup_12 : decode cX6_cup 12 = .ok (.istore_n 2, 1) := by decide +kernel
theorem dX6_cup_13 : decode cX6_cup 13 = .ok (.iload_n 2, 1) := by decide +kernel
theorem dX6_cup_14 : decode cX6_cup 14 = .ok (.bipush 16, 2) := by decide +kernel
theorem dX6_cup_16 : decode cX6_cup 16 = .ok (.if_icmp .ge 16, 3) := by decide +kernel
theorem dX6_cup_19 : decode cX6_cup 19 = .ok (.aload_n 0, 1) := by decide +kernel
theorem dX6_cup_20 : decode cX6_cup 20 = .ok (.getfield 123, 3) := by decide +kernel
theorem dX6_cup_23 : decode cX6_cup 23 = .ok (.iload_n 2, 1) := by decide +kernel
theorem dX6_cup_24 : decode cX6_cup 24 = .ok (.iconst 0, 1) := by decide +kernel
theorem dX6_cup_25 : decode cX6_cup 25 = .ok (.iastore, 1) := by decide +kernel
theorem dX6_cup_26 : decode cX6_cup 26 = .ok (.iinc 2 1, 3) := by decide +kernel
theorem dX6_cup_29 : decode cX6_cup 29 = .ok (.goto (-16), 3) := by decide +kernel
theorem dX6_cup_32 : decode cX6_cup 32 = .ok (.iconst 0, 1) := by decide +kernel
theorem dX6_cup_33 : decode cX6_cup 33 = .ok (.istore_n 2, 1) := by decide +kernel
theorem dX6_cup_34 : decode cX6_cup 34 = .ok (.iload_n 2, 1) := by decide +kernel
theorem dX6_cup_35 : decode cX6_cup 35 = .ok (.aload_n 0, 1) := by decide +kernel
theorem dX6_cup_36 : decode cX6_cup 36 = .ok (.getfield 200, 3) := by decide +kernel
theorem dX6_cup_39 : decode cX6_cup 39 = .ok (.if_icmp .ge 92, 3) := by decide +kernel
theorem dX6_cup_131 : decode cX6_cup 131 = .ok (.return_, 1) := by decide +kernel
theorem dX6_points_0 : decode cX6_points 0 = .ok (.aload_n 0, 1) := by decide +kernel
theorem dX6_points_1 : decode cX6_points 1 = .ok (.iconst 0, 1) := by decide +kernel
theorem dX6_points_2 : decode cX6_points 2 = .ok (.putfield 126, 3) := by decide +kernel
theorem dX6_points_5 : decode cX6_points 5 = .ok (.aload_n 0, 1) := by decide +kernel
theorem dX6_points_6 : decode cX6_points 6 = .ok (.iload_n 1, 1) := by decide +kernel
theorem dX6_points_7 : decode cX6_points 7 = .ok (.invokevirtual 206, 3) := by decide +kernel
theorem dX6_points_10 : decode cX6_points 10 = .ok (.ifCond .eq 11, 3) := by decide +kernel
theorem dX6_points_21 : decode cX6_points 21 = .ok (.iconst (-1), 1) := by decide +kernel
theorem dX6_points_22 : decode cX6_points 22 = .ok (.ireturn, 1) := by decide +kernel
theorem dX6_standing_0 : decode cX6_standing 0 = .ok (.aload_n 0, 1) := by decide +kernel
theorem dX6_standing_1 : decode cX6_standing 1 = .ok (.iconst 0, 1) := by decide +kernel
theorem dX6_standing_2 : decode cX6_standing 2 = .ok (.putfield 126, 3) := by decide +kernel
theorem dX6_standing_5 : decode cX6_standing 5 = .ok (.aload_n 0, 1) := by decide +kernel
theorem dX6_standing_6 : decode cX6_standing 6 = .ok (.iload_n 1, 1) := by decide +kernel
theorem dX6_standing_7 : decode cX6_standing 7 = .ok (.invokevirtual 206, 3) := by decide +kernel
theorem dX6_standing_10 : decode cX6_standing 10 = .ok (.ifCond .eq 11, 3) := by decide +kernel
theorem dX6_standing_21 : decode cX6_standing 21 = .ok (.iconst (-1), 1) := by decide +kernel
theorem dX6_standing_22 : decode cX6_standing 22 = .ok (.ireturn, 1) := by decide +kernel
theorem dX6_starters_0 : decode cX6_starters 0 = .ok (.aload_n 0, 1) := by decide +kernel
theorem dX6_starters_1 : decode cX6_starters 1 = .ok (.iconst 0, 1) := by decide +kernel
theorem dX6_starters_2 : decode cX6_starters 2 = .ok (.putfield 126, 3) := by decide +kernel
theorem dX6_starters_5 : decode cX6_starters 5 = .ok (.iload_n 1, 1) := by decide +kernel
theorem dX6_starters_6 : decode cX6_starters 6 = .ok (.ifCond .lt 17, 3) := by decide +kernel
theorem dX6_starters_9 : decode cX6_starters 9 = .ok (.iload_n 1, 1) := by decide +kernel
theorem dX6_starters_10 : decode cX6_starters 10 = .ok (.bipush 7, 2) := by decide +kernel
theorem dX6_starters_12 : decode cX6_starters 12 = .ok (.if_icmp .gt 11, 3) := by decide +kernel
theorem dX6_starters_15 : decode cX6_starters 15 = .ok (.aload_n 0, 1) := by decide +kernel
theorem dX6_starters_16 : decode cX6_starters 16 = .ok (.iload_n 2, 1) := by decide +kernel
theorem dX6_starters_17 : decode cX6_starters 17 = .ok (.invokevirtual 241, 3) := by decide +kernel
theorem dX6_starters_20 : decode cX6_starters 20 = .ok (.ifCond .ne 5, 3) := by decide +kernel
theorem dX6_starters_23 : decode cX6_starters 23 = .ok (.iconst (-1), 1) := by decide +kernel
theorem dX6_starters_24 : decode cX6_starters 24 = .ok (.ireturn, 1) := by decide +kernel
theorem dX6_starters_25 : decode cX6_starters 25 = .ok (.aload_n 0, 1) := by decide +kernel
theorem dX6_starters_26 : decode cX6_starters 26 = .ok (.iload_n 2, 1) := by decide +kernel
theorem dX6_starters_27 : decode cX6_starters 27 = .ok (.invokevirtual 252, 3) := by decide +kernel
theorem dX6_starters_30 : decode cX6_starters 30 = .ok (.iconst 2, 1) := by decide +kernel
theorem dX6_starters_31 : decode cX6_starters 31 = .ok (.istore_n 3, 1) := by decide +kernel
theorem dX6_starters_32 : decode cX6_starters 32 = .ok (.iconst 0, 1) := by decide +kernel
theorem dX6_starters_33 : decode cX6_starters 33 = .ok (.istore 4, 2) := by decide +kernel
theorem dX6_starters_35 : decode cX6_starters 35 = .ok (.iload 4, 2) := by decide +kernel
theorem dX6_starters_37 : decode cX6_starters 37 = .ok (.aload_n 0, 1) := by decide +kernel
theorem dX6_starters_38 : decode cX6_starters 38 = .ok (.getfield 197, 3) := by decide +kernel
theorem dX6_starters_41 : decode cX6_starters 41 = .ok (.if_icmp .ge 48, 3) := by decide +kernel
theorem dX6_starters_89 : decode cX6_starters 89 = .ok (.iload_n 3, 1) := by decide +kernel
theorem dX6_starters_90 : decode cX6_starters 90 = .ok (.iconst 4, 1) := by decide +kernel
theorem dX6_starters_91 : decode cX6_starters 91 = .ok (.if_icmp .le 7, 3) := by decide +kernel
theorem dX6_starters_98 : decode cX6_starters 98 = .ok (.iload_n 3, 1) := by decide +kernel
theorem dX6_starters_99 : decode cX6_starters 99 = .ok (.ireturn, 1) := by decide +kernel
theorem dX6_count_0 : decode cX6_count 0 = .ok (.aload_n 0, 1) := by decide +kernel
theorem dX6_count_1 : decode cX6_count 1 = .ok (.iconst 0, 1) := by decide +kernel
theorem dX6_count_2 : decode cX6_count 2 = .ok (.putfield 126, 3) := by decide +kernel
theorem dX6_count_5 : decode cX6_count 5 = .ok (.iload_n 1, 1) := by decide +kernel
theorem dX6_count_6 : decode cX6_count 6 = .ok (.tableswitch 59 0 4 #[34, 39, 44, 49, 54], 34) := by decide +kernel
theorem dX6_count_40 : decode cX6_count 40 = .ok (.aload_n 0, 1) := by decide +kernel
theorem dX6_count_41 : decode cX6_count 41 = .ok (.getfield 194, 3) := by decide +kernel
theorem dX6_count_44 : decode cX6_count 44 = .ok (.ireturn, 1) := by decide +kernel
theorem dX6_count_45 : decode cX6_count 45 = .ok (.aload_n 0, 1) := by decide +kernel
theorem dX6_count_46 : decode cX6_count 46 = .ok (.getfield 191, 3) := by decide +kernel
theorem dX6_count_49 : decode cX6_count 49 = .ok (.ireturn, 1) := by decide +kernel
theorem dX6_count_50 : decode cX6_count 50 = .ok (.aload_n 0, 1) := by decide +kernel
theorem dX6_count_51 : decode cX6_count 51 = .ok (.getfield 197, 3) := by decide +kernel
theorem dX6_count_54 : decode cX6_count 54 = .ok (.ireturn, 1) := by decide +kernel
theorem dX6_count_55 : decode cX6_count 55 = .ok (.aload_n 0, 1) := by decide +kernel
theorem dX6_count_56 : decode cX6_count 56 = .ok (.getfield 200, 3) := by decide +kernel
theorem dX6_count_59 : decode cX6_count 59 = .ok (.ireturn, 1) := by decide +kernel
theorem dX6_count_60 : decode cX6_count 60 = .ok (.aload_n 0, 1) := by decide +kernel
theorem dX6_count_61 : decode cX6_count 61 = .ok (.getfield 217, 3) := by decide +kernel
theorem dX6_count_64 : decode cX6_count 64 = .ok (.ireturn, 1) := by decide +kernel
theorem dX6_count_65 : decode cX6_count 65 = .ok (.iconst (-1), 1) := by decide +kernel
theorem dX6_count_66 : decode cX6_count 66 = .ok (.ireturn, 1) := by decide +kernel
