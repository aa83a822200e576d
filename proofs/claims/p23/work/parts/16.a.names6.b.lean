theorem dX6_pass_416 : decode cX6_pass 416 = .ok (.aload 6, 2) := by decide +kernel
theorem dX6_pass_418 : decode cX6_pass 418 = .ok (.dup, 1) := by decide +kernel
theorem dX6_pass_419 : decode cX6_pass 419 = .ok (.getfield 89, 3) := by decide +kernel
theorem dX6_pass_422 : decode cX6_pass 422 = .ok (.iconst 1, 1) := by decide +kernel
theorem dX6_pass_423 : decode cX6_pass 423 = .ok (.iadd, 1) := by decide +kernel
theorem dX6_pass_424 : decode cX6_pass 424 = .ok (.putfield 89, 3) := by decide +kernel
theorem dX6_pass_427 : decode cX6_pass 427 = .ok (.goto 58, 3) := by decide +kernel
theorem dX6_pass_430 : decode cX6_pass 430 = .ok (.aload 6, 2) := by decide +kernel
theorem dX6_pass_432 : decode cX6_pass 432 = .ok (.dup, 1) := by decide +kernel
theorem dX6_pass_433 : decode cX6_pass 433 = .ok (.getfield 59, 3) := by decide +kernel
theorem dX6_pass_436 : decode cX6_pass 436 = .ok (.aload 7, 2) := by decide +kernel
theorem dX6_pass_438 : decode cX6_pass 438 = .ok (.getfield 36, 3) := by decide +kernel
theorem dX6_pass_441 : decode cX6_pass 441 = .ok (.isub, 1) := by decide +kernel
theorem dX6_pass_442 : decode cX6_pass 442 = .ok (.putfield 59, 3) := by decide +kernel
theorem dX6_pass_445 : decode cX6_pass 445 = .ok (.aload 7, 2) := by decide +kernel
theorem dX6_pass_447 : decode cX6_pass 447 = .ok (.dup, 1) := by decide +kernel
theorem dX6_pass_448 : decode cX6_pass 448 = .ok (.getfield 45, 3) := by decide +kernel
theorem dX6_pass_451 : decode cX6_pass 451 = .ok (.aload 7, 2) := by decide +kernel
theorem dX6_pass_453 : decode cX6_pass 453 = .ok (.getfield 36, 3) := by decide +kernel
theorem dX6_pass_456 : decode cX6_pass 456 = .ok (.iadd, 1) := by decide +kernel
theorem dX6_pass_457 : decode cX6_pass 457 = .ok (.putfield 45, 3) := by decide +kernel
theorem dX6_pass_460 : decode cX6_pass 460 = .ok (.aload 7, 2) := by decide +kernel
theorem dX6_pass_462 : decode cX6_pass 462 = .ok (.dup, 1) := by decide +kernel
theorem dX6_pass_463 : decode cX6_pass 463 = .ok (.getfield 42, 3) := by decide +kernel
theorem dX6_pass_466 : decode cX6_pass 466 = .ok (.iconst 1, 1) := by decide +kernel
theorem dX6_pass_467 : decode cX6_pass 467 = .ok (.iadd, 1) := by decide +kernel
theorem dX6_pass_468 : decode cX6_pass 468 = .ok (.putfield 42, 3) := by decide +kernel
theorem dX6_pass_471 : decode cX6_pass 471 = .ok (.aload 7, 2) := by decide +kernel
theorem dX6_pass_473 : decode cX6_pass 473 = .ok (.aload 6, 2) := by decide +kernel
theorem dX6_pass_475 : decode cX6_pass 475 = .ok (.putfield 73, 3) := by decide +kernel
theorem dX6_pass_478 : decode cX6_pass 478 = .ok (.aload 6, 2) := by decide +kernel
theorem dX6_pass_480 : decode cX6_pass 480 = .ok (.aload 7, 2) := by decide +kernel
theorem dX6_pass_482 : decode cX6_pass 482 = .ok (.putfield 70, 3) := by decide +kernel
theorem dX6_pass_485 : decode cX6_pass 485 = .ok (.iinc 5 1, 3) := by decide +kernel
theorem dX6_pass_488 : decode cX6_pass 488 = .ok (.goto (-317), 3) := by decide +kernel
theorem dX6_pass_491 : decode cX6_pass 491 = .ok (.aload_n 0, 1) := by decide +kernel
theorem dX6_pass_492 : decode cX6_pass 492 = .ok (.getfield 24, 3) := by decide +kernel
theorem dX6_pass_495 : decode cX6_pass 495 = .ok (.astore_n 3, 1) := by decide +kernel
theorem dX6_pass_496 : decode cX6_pass 496 = .ok (.aload_n 3, 1) := by decide +kernel
theorem dX6_pass_497 : decode cX6_pass 497 = .ok (.arraylength, 1) := by decide +kernel
theorem dX6_pass_498 : decode cX6_pass 498 = .ok (.istore 4, 2) := by decide +kernel
theorem dX6_pass_500 : decode cX6_pass 500 = .ok (.iconst 0, 1) := by decide +kernel
theorem dX6_pass_501 : decode cX6_pass 501 = .ok (.istore 5, 2) := by decide +kernel
theorem dX6_pass_503 : decode cX6_pass 503 = .ok (.iload 5, 2) := by decide +kernel
theorem dX6_pass_505 : decode cX6_pass 505 = .ok (.iload 4, 2) := by decide +kernel
theorem dX6_pass_507 : decode cX6_pass 507 = .ok (.if_icmp .ge 76, 3) := by decide +kernel
theorem dX6_pass_510 : decode cX6_pass 510 = .ok (.aload_n 3, 1) := by decide +kernel
theorem dX6_pass_511 : decode cX6_pass 511 = .ok (.iload 5, 2) := by decide +kernel
theorem dX6_pass_513 : decode cX6_pass 513 = .ok (.aaload, 1) := by decide +kernel
theorem dX6_pass_514 : decode cX6_pass 514 = .ok (.astore 6, 2) := by decide +kernel
theorem dX6_pass_516 : decode cX6_pass 516 = .ok (.aload 6, 2) := by decide +kernel
theorem dX6_pass_518 : decode cX6_pass 518 = .ok (.dup, 1) := by decide +kernel
theorem dX6_pass_519 : decode cX6_pass 519 = .ok (.getfield 80, 3) := by decide +kernel
theorem dX6_pass_522 : decode cX6_pass 522 = .ok (.aload 6, 2) := by decide +kernel
theorem dX6_pass_524 : decode cX6_pass 524 = .ok (.getfield 70, 3) := by decide +kernel
theorem dX6_pass_527 : decode cX6_pass 527 = .ok (.ifnull 23, 3) := by decide +kernel
theorem dX6_pass_530 : decode cX6_pass 530 = .ok (.aload 6, 2) := by decide +kernel
theorem dX6_pass_532 : decode cX6_pass 532 = .ok (.getfield 70, 3) := by decide +kernel
theorem dX6_pass_535 : decode cX6_pass 535 = .ok (.getfield 39, 3) := by decide +kernel
theorem dX6_pass_538 : decode cX6_pass 538 = .ok (.iconst 3, 1) := by decide +kernel
theorem dX6_pass_539 : decode cX6_pass 539 = .ok (.if_icmp .le 7, 3) := by decide +kernel
theorem dX6_pass_542 : decode cX6_pass 542 = .ok (.iconst 2, 1) := by decide +kernel
theorem dX6_pass_543 : decode cX6_pass 543 = .ok (.goto 30, 3) := by decide +kernel
theorem dX6_pass_546 : decode cX6_pass 546 = .ok (.iconst 1, 1) := by decide +kernel
theorem dX6_pass_547 : decode cX6_pass 547 = .ok (.goto 26, 3) := by decide +kernel
theorem dX6_pass_550 : decode cX6_pass 550 = .ok (.aload 6, 2) := by decide +kernel
theorem dX6_pass_552 : decode cX6_pass 552 = .ok (.getfield 77, 3) := by decide +kernel
theorem dX6_pass_555 : decode cX6_pass 555 = .ok (.ifCond .eq 17, 3) := by decide +kernel
theorem dX6_pass_558 : decode cX6_pass 558 = .ok (.aload_n 0, 1) := by decide +kernel
theorem dX6_pass_559 : decode cX6_pass 559 = .ok (.getfield 29, 3) := by decide +kernel
theorem dX6_pass_562 : decode cX6_pass 562 = .ok (.iconst 2, 1) := by decide +kernel
theorem dX6_pass_563 : decode cX6_pass 563 = .ok (.irem, 1) := by decide +kernel
theorem dX6_pass_564 : decode cX6_pass 564 = .ok (.iconst 1, 1) := by decide +kernel
theorem dX6_pass_565 : decode cX6_pass 565 = .ok (.if_icmp .ne 7, 3) := by decide +kernel
theorem dX6_pass_568 : decode cX6_pass 568 = .ok (.iconst 1, 1) := by decide +kernel
theorem dX6_pass_569 : decode cX6_pass 569 = .ok (.goto 4, 3) := by decide +kernel
theorem dX6_pass_572 : decode cX6_pass 572 = .ok (.iconst 0, 1) := by decide +kernel
theorem dX6_pass_573 : decode cX6_pass 573 = .ok (.iadd, 1) := by decide +kernel
theorem dX6_pass_574 : decode cX6_pass 574 = .ok (.putfield 80, 3) := by decide +kernel
theorem dX6_pass_577 : decode cX6_pass 577 = .ok (.iinc 5 1, 3) := by decide +kernel
theorem dX6_pass_580 : decode cX6_pass 580 = .ok (.goto (-77), 3) := by decide +kernel
theorem dX6_pass_583 : decode cX6_pass 583 = .ok (.aload_n 0, 1) := by decide +kernel
theorem dX6_pass_584 : decode cX6_pass 584 = .ok (.getfield 18, 3) := by decide +kernel
theorem dX6_pass_587 : decode cX6_pass 587 = .ok (.astore_n 3, 1) := by decide +kernel
theorem dX6_pass_588 : decode cX6_pass 588 = .ok (.aload_n 3, 1) := by decide +kernel
theorem dX6_pass_589 : decode cX6_pass 589 = .ok (.arraylength, 1) := by decide +kernel
theorem dX6_pass_590 : decode cX6_pass 590 = .ok (.istore 4, 2) := by decide +kernel
theorem dX6_pass_592 : decode cX6_pass 592 = .ok (.iconst 0, 1) := by decide +kernel
theorem dX6_pass_593 : decode cX6_pass 593 = .ok (.istore 5, 2) := by decide +kernel
theorem dX6_pass_595 : decode cX6_pass 595 = .ok (.iload 5, 2) := by decide +kernel
theorem dX6_pass_597 : decode cX6_pass 597 = .ok (.iload 4, 2) := by decide +kernel
theorem dX6_pass_599 : decode cX6_pass 599 = .ok (.if_icmp .ge 76, 3) := by decide +kernel
theorem dX6_pass_602 : decode cX6_pass 602 = .ok (.aload_n 3, 1) := by decide +kernel
theorem dX6_pass_603 : decode cX6_pass 603 = .ok (.iload 5, 2) := by decide +kernel
theorem dX6_pass_605 : decode cX6_pass 605 = .ok (.aaload, 1) := by decide +kernel
theorem dX6_pass_606 : decode cX6_pass 606 = .ok (.astore 6, 2) := by decide +kernel
theorem dX6_pass_608 : decode cX6_pass 608 = .ok (.aload 6, 2) := by decide +kernel
theorem dX6_pass_610 : decode cX6_pass 610 = .ok (.getfield 73, 3) := by decide +kernel
theorem dX6_pass_613 : decode cX6_pass 613 = .ok (.ifnull 32, 3) := by decide +kernel
theorem dX6_pass_616 : decode cX6_pass 616 = .ok (.aload 6, 2) := by decide +kernel
theorem dX6_pass_618 : decode cX6_pass 618 = .ok (.aload 6, 2) := by decide +kernel
theorem dX6_pass_620 : decode cX6_pass 620 = .ok (.getfield 39, 3) := by decide +kernel
theorem dX6_pass_623 : decode cX6_pass 623 = .ok (.iconst 5, 1) := by decide +kernel
theorem dX6_pass_624 : decode cX6_pass 624 = .ok (.if_icmp .le 8, 3) := by decide +kernel
theorem dX6_pass_627 : decode cX6_pass 627 = .ok (.bipush 8, 2) := by decide +kernel
theorem dX6_pass_629 : decode cX6_pass 629 = .ok (.goto 10, 3) := by decide +kernel
theorem dX6_pass_632 : decode cX6_pass 632 = .ok (.aload 6, 2) := by decide +kernel
theorem dX6_pass_634 : decode cX6_pass 634 = .ok (.getfield 39, 3) := by decide +kernel
theorem dX6_pass_637 : decode cX6_pass 637 = .ok (.iconst 2, 1) := by decide +kernel
theorem dX6_pass_638 : decode cX6_pass 638 = .ok (.iadd, 1) := by decide +kernel
theorem dX6_pass_639 : decode cX6_pass 639 = .ok (.putfield 39, 3) := by decide +kernel
theorem dX6_pass_642 : decode cX6_pass 642 = .ok (.goto 27, 3) := by decide +kernel
theorem dX6_pass_645 : decode cX6_pass 645 = .ok (.aload 6, 2) := by decide +kernel
theorem dX6_pass_647 : decode cX6_pass 647 = .ok (.aload 6, 2) := by decide +kernel
theorem dX6_pass_649 : decode cX6_pass 649 = .ok (.getfield 39, 3) := by decide +kernel
theorem dX6_pass_652 : decode cX6_pass 652 = .ok (.ifCond .le 13, 3) := by decide +kernel
theorem dX6_pass_655 : decode cX6_pass 655 = .ok (.aload 6, 2) := by decide +kernel
theorem dX6_pass_657 : decode cX6_pass 657 = .ok (.getfield 39, 3) := by decide +kernel
theorem dX6_pass_660 : decode cX6_pass 660 = .ok (.iconst 1, 1) := by decide +kernel
theorem dX6_pass_661 : decode cX6_pass 661 = .ok (.isub, 1) := by decide +kernel
theorem dX6_pass_662 : decode cX6_pass 662 = .ok (.goto 4, 3) := by decide +kernel
theorem dX6_pass_665 : decode cX6_pass 665 = .ok (.iconst 0, 1) := by decide +kernel
theorem dX6_pass_666 : decode cX6_pass 666 = .ok (.putfield 39, 3) := by decide +kernel
theorem dX6_pass_669 : decode cX6_pass 669 = .ok (.iinc 5 1, 3) := by decide +kernel
theorem dX6_pass_672 : decode cX6_pass 672 = .ok (.goto (-77), 3) := by decide +kernel
theorem dX6_pass_675 : decode cX6_pass 675 = .ok (.aload_n 0, 1) := by decide +kernel
theorem dX6_pass_676 : decode cX6_pass 676 = .ok (.dup, 1) := by decide +kernel
theorem dX6_pass_677 : decode cX6_pass 677 = .ok (.getfield 29, 3) := by decide +kernel
theorem dX6_pass_680 : decode cX6_pass 680 = .ok (.iconst 1, 1) := by decide +kernel
theorem dX6_pass_681 : decode cX6_pass 681 = .ok (.iadd, 1) := by decide +kernel
theorem dX6_pass_682 : decode cX6_pass 682 = .ok (.putfield 29, 3) := by decide +kernel
theorem dX6_pass_685 : decode cX6_pass 685 = .ok (.return_, 1) := by decide +kernel
theorem dX6_behind_0 : decode cX6_behind 0 = .ok (.iconst 0, 1) := by decide +kernel
theorem dX6_behind_1 : decode cX6_behind 1 = .ok (.istore_n 2, 1) := by decide +kernel
theorem dX6_behind_2 : decode cX6_behind 2 = .ok (.iload_n 2, 1) := by decide +kernel
theorem dX6_behind_3 : decode cX6_behind 3 = .ok (.iload_n 1, 1) := by decide +kernel
theorem dX6_behind_4 : decode cX6_behind 4 = .ok (.if_icmp .ge 13, 3) := by decide +kernel
theorem dX6_behind_7 : decode cX6_behind 7 = .ok (.aload_n 0, 1) := by decide +kernel
theorem dX6_behind_8 : decode cX6_behind 8 = .ok (.invokevirtual 103, 3) := by decide +kernel
theorem dX6_behind_11 : decode cX6_behind 11 = .ok (.iinc 2 1, 3) := by decide +kernel
theorem dX6_behind_14 : decode cX6_behind 14 = .ok (.goto (-12), 3) := by decide +kernel
theorem dX6_behind_17 : decode cX6_behind 17 = .ok (.aload_n 0, 1) := by decide +kernel
theorem dX6_behind_18 : decode cX6_behind 18 = .ok (.areturn, 1) := by decide +kernel
theorem dX6_sums_0 : decode cX6_sums 0 = .ok (.iconst 4, 1) := by decide +kernel
theorem dX6_sums_1 : decode cX6_sums 1 = .ok (.newarray .int, 2) := by decide +kernel
theorem dX6_sums_3 : decode cX6_sums 3 = .ok (.astore_n 1, 1) := by decide +kernel
theorem dX6_sums_4 : decode cX6_sums 4 = .ok (.aload_n 0, 1) := by decide +kernel
theorem dX6_sums_5 : decode cX6_sums 5 = .ok (.getfield 24, 3) := by decide +kernel
theorem dX6_sums_8 : decode cX6_sums 8 = .ok (.astore_n 2, 1) := by decide +kernel
theorem dX6_sums_9 : decode cX6_sums 9 = .ok (.aload_n 2, 1) := by decide +kernel
theorem dX6_sums_10 : decode cX6_sums 10 = .ok (.arraylength, 1) := by decide +kernel
theorem dX6_sums_11 : decode cX6_sums 11 = .ok (.istore_n 3, 1) := by decide +kernel
theorem dX6_sums_12 : decode cX6_sums 12 = .ok (.iconst 0, 1) := by decide +kernel
theorem dX6_sums_13 : decode cX6_sums 13 = .ok (.istore 4, 2) := by decide +kernel
theorem dX6_sums_15 : decode cX6_sums 15 = .ok (.iload 4, 2) := by decide +kernel
theorem dX6_sums_17 : decode cX6_sums 17 = .ok (.iload_n 3, 1) := by decide +kernel
theorem dX6_sums_18 : decode cX6_sums 18 = .ok (.if_icmp .ge 75, 3) := by decide +kernel
theorem dX6_sums_21 : decode cX6_sums 21 = .ok (.aload_n 2, 1) := by decide +kernel
theorem dX6_sums_22 : decode cX6_sums 22 = .ok (.iload 4, 2) := by decide +kernel
theorem dX6_sums_24 : decode cX6_sums 24 = .ok (.aaload, 1) := by decide +kernel
theorem dX6_sums_25 : decode cX6_sums 25 = .ok (.astore 5, 2) := by decide +kernel
theorem dX6_sums_27 : decode cX6_sums 27 = .ok (.aload_n 1, 1) := by decide +kernel
theorem dX6_sums_28 : decode cX6_sums 28 = .ok (.iconst 0, 1) := by decide +kernel
theorem dX6_sums_29 : decode cX6_sums 29 = .ok (.dup2, 1) := by decide +kernel
theorem dX6_sums_30 : decode cX6_sums 30 = .ok (.iaload, 1) := by decide +kernel
theorem dX6_sums_31 : decode cX6_sums 31 = .ok (.aload 5, 2) := by decide +kernel
theorem dX6_sums_33 : decode cX6_sums 33 = .ok (.getfield 70, 3) := by decide +kernel
theorem dX6_sums_36 : decode cX6_sums 36 = .ok (.ifnull 7, 3) := by decide +kernel
theorem dX6_sums_39 : decode cX6_sums 39 = .ok (.iconst 1, 1) := by decide +kernel
theorem dX6_sums_40 : decode cX6_sums 40 = .ok (.goto 4, 3) := by decide +kernel
theorem dX6_sums_43 : decode cX6_sums 43 = .ok (.iconst 0, 1) := by decide +kernel
theorem dX6_sums_44 : decode cX6_sums 44 = .ok (.iadd, 1) := by decide +kernel
theorem dX6_sums_45 : decode cX6_sums 45 = .ok (.iastore, 1) := by decide +kernel
theorem dX6_sums_46 : decode cX6_sums 46 = .ok (.aload_n 1, 1) := by decide +kernel
theorem dX6_sums_47 : decode cX6_sums 47 = .ok (.iconst 1, 1) := by decide +kernel
theorem dX6_sums_48 : decode cX6_sums 48 = .ok (.dup2, 1) := by decide +kernel
theorem dX6_sums_49 : decode cX6_sums 49 = .ok (.iaload, 1) := by decide +kernel
theorem dX6_sums_50 : decode cX6_sums 50 = .ok (.aload 5, 2) := by decide +kernel
theorem dX6_sums_52 : decode cX6_sums 52 = .ok (.getfield 77, 3) := by decide +kernel
theorem dX6_sums_55 : decode cX6_sums 55 = .ok (.ifCond .eq 7, 3) := by decide +kernel
theorem dX6_sums_58 : decode cX6_sums 58 = .ok (.iconst 1, 1) := by decide +kernel
theorem dX6_sums_59 : decode cX6_sums 59 = .ok (.goto 4, 3) := by decide +kernel
theorem dX6_sums_62 : decode cX6_sums 62 = .ok (.iconst 0, 1) := by decide +kernel
theorem dX6_sums_63 : decode cX6_sums 63 = .ok (.iadd, 1) := by decide +kernel
theorem dX6_sums_64 : decode cX6_sums 64 = .ok (.iastore, 1) := by decide +kernel
theorem dX6_sums_65 : decode cX6_sums 65 = .ok (.aload_n 1, 1) := by decide +kernel
theorem dX6_sums_66 : decode cX6_sums 66 = .ok (.iconst 2, 1) := by decide +kernel
theorem dX6_sums_67 : decode cX6_sums 67 = .ok (.dup2, 1) := by decide +kernel
theorem dX6_sums_68 : decode cX6_sums 68 = .ok (.iaload, 1) := by decide +kernel
theorem dX6_sums_69 : decode cX6_sums 69 = .ok (.aload 5, 2) := by decide +kernel
theorem dX6_sums_71 : decode cX6_sums 71 = .ok (.getfield 83, 3) := by decide +kernel
theorem dX6_sums_74 : decode cX6_sums 74 = .ok (.iadd, 1) := by decide +kernel
theorem dX6_sums_75 : decode cX6_sums 75 = .ok (.iastore, 1) := by decide +kernel
theorem dX6_sums_76 : decode cX6_sums 76 = .ok (.aload_n 1, 1) := by decide +kernel
theorem dX6_sums_77 : decode cX6_sums 77 = .ok (.iconst 3, 1) := by decide +kernel
theorem dX6_sums_78 : decode cX6_sums 78 = .ok (.dup2, 1) := by decide +kernel
theorem dX6_sums_79 : decode cX6_sums 79 = .ok (.iaload, 1) := by decide +kernel
theorem dX6_sums_80 : decode cX6_sums 80 = .ok (.aload 5, 2) := by decide +kernel
theorem dX6_sums_82 : decode cX6_sums 82 = .ok (.getfield 89, 3) := by decide +kernel
theorem dX6_sums_85 : decode cX6_sums 85 = .ok (.iadd, 1) := by decide +kernel
theorem dX6_sums_86 : decode cX6_sums 86 = .ok (.iastore, 1) := by decide +kernel
theorem dX6_sums_87 : decode cX6_sums 87 = .ok (.iinc 4 1, 3) := by decide +kernel
theorem dX6_sums_90 : decode cX6_sums 90 = .ok (.goto (-75), 3) := by decide +kernel
theorem dX6_sums_93 : decode cX6_sums 93 = .ok (.aload_n 1, 1) := by decide +kernel
theorem dX6_sums_94 : decode cX6_sums 94 = .ok (.areturn, 1) := by decide +kernel
theorem dX6_isSame_0 : decode cX6_isSame 0 = .ok (.aload_n 0, 1) := by decide +kernel
theorem dX6_isSame_1 : decode cX6_isSame 1 = .ok (.invokevirtual 106, 3) := by decide +kernel
theorem dX6_isSame_4 : decode cX6_isSame 4 = .ok (.astore_n 2, 1) := by decide +kernel
theorem dX6_isSame_5 : decode cX6_isSame 5 = .ok (.bipush 10, 2) := by decide +kernel
theorem dX6_isSame_7 : decode cX6_isSame 7 = .ok (.newarray .int, 2) := by decide +kernel
theorem dX6_isSame_9 : decode cX6_isSame 9 = .ok (.dup, 1) := by decide +kernel
theorem dX6_isSame_10 : decode cX6_isSame 10 = .ok (.iconst 0, 1) := by decide +kernel
theorem dX6_isSame_11 : decode cX6_isSame 11 = .ok (.aload_n 0, 1) := by decide +kernel
theorem dX6_isSame_12 : decode cX6_isSame 12 = .ok (.getfield 29, 3) := by decide +kernel
theorem dX6_isSame_15 : decode cX6_isSame 15 = .ok (.iastore, 1) := by decide +kernel
theorem dX6_isSame_16 : decode cX6_isSame 16 = .ok (.dup, 1) := by decide +kernel
theorem dX6_isSame_17 : decode cX6_isSame 17 = .ok (.iconst 1, 1) := by decide +kernel
theorem dX6_isSame_18 : decode cX6_isSame 18 = .ok (.aload_n 0, 1) := by decide +kernel
theorem dX6_isSame_19 : decode cX6_isSame 19 = .ok (.getfield 18, 3) := by decide +kernel
theorem dX6_isSame_22 : decode cX6_isSame 22 = .ok (.arraylength, 1) := by decide +kernel
theorem dX6_isSame_23 : decode cX6_isSame 23 = .ok (.iastore, 1) := by decide +kernel
theorem dX6_isSame_24 : decode cX6_isSame 24 = .ok (.dup, 1) := by decide +kernel
theorem dX6_isSame_25 : decode cX6_isSame 25 = .ok (.iconst 2, 1) := by decide +kernel
theorem dX6_isSame_26 : decode cX6_isSame 26 = .ok (.aload_n 0, 1) := by decide +kernel
theorem dX6_isSame_27 : decode cX6_isSame 27 = .ok (.getfield 24, 3) := by decide +kernel
theorem dX6_isSame_30 : decode cX6_isSame 30 = .ok (.arraylength, 1) := by decide +kernel
theorem dX6_isSame_31 : decode cX6_isSame 31 = .ok (.iastore, 1) := by decide +kernel
theorem dX6_isSame_32 : decode cX6_isSame 32 = .ok (.dup, 1) := by decide +kernel
theorem dX6_isSame_33 : decode cX6_isSame 33 = .ok (.iconst 3, 1) := by decide +kernel
theorem dX6_isSame_34 : decode cX6_isSame 34 = .ok (.aload_n 0, 1) := by decide +kernel
theorem dX6_isSame_35 : decode cX6_isSame 35 = .ok (.getfield 29, 3) := by decide +kernel
theorem dX6_isSame_38 : decode cX6_isSame 38 = .ok (.bipush 8, 2) := by decide +kernel
theorem dX6_isSame_40 : decode cX6_isSame 40 = .ok (.idiv, 1) := by decide +kernel
theorem dX6_isSame_41 : decode cX6_isSame 41 = .ok (.iconst 3, 1) := by decide +kernel
theorem dX6_isSame_42 : decode cX6_isSame 42 = .ok (.irem, 1) := by decide +kernel
theorem dX6_isSame_43 : decode cX6_isSame 43 = .ok (.iastore, 1) := by decide +kernel
theorem dX6_isSame_44 : decode cX6_isSame 44 = .ok (.dup, 1) := by decide +kernel
theorem dX6_isSame_45 : decode cX6_isSame 45 = .ok (.iconst 4, 1) := by decide +kernel
theorem dX6_isSame_46 : decode cX6_isSame 46 = .ok (.aload_n 2, 1) := by decide +kernel
theorem dX6_isSame_47 : decode cX6_isSame 47 = .ok (.iconst 0, 1) := by decide +kernel
theorem dX6_isSame_48 : decode cX6_isSame 48 = .ok (.iaload, 1) := by decide +kernel
theorem dX6_isSame_49 : decode cX6_isSame 49 = .ok (.iastore, 1) := by decide +kernel
theorem dX6_isSame_50 : decode cX6_isSame 50 = .ok (.dup, 1) := by decide +kernel
theorem dX6_isSame_51 : decode cX6_isSame 51 = .ok (.iconst 5, 1) := by decide +kernel
theorem dX6_isSame_52 : decode cX6_isSame 52 = .ok (.aload_n 2, 1) := by decide +kernel
theorem dX6_isSame_53 : decode cX6_isSame 53 = .ok (.iconst 1, 1) := by decide +kernel
theorem dX6_isSame_54 : decode cX6_isSame 54 = .ok (.iaload, 1) := by decide +kernel
theorem dX6_isSame_55 : decode cX6_isSame 55 = .ok (.iastore, 1) := by decide +kernel
theorem dX6_isSame_56 : decode cX6_isSame 56 = .ok (.dup, 1) := by decide +kernel
theorem dX6_isSame_57 : decode cX6_isSame 57 = .ok (.bipush 6, 2) := by decide +kernel
theorem dX6_isSame_59 : decode cX6_isSame 59 = .ok (.aload_n 2, 1) := by decide +kernel
theorem dX6_isSame_60 : decode cX6_isSame 60 = .ok (.iconst 2, 1) := by decide +kernel
theorem dX6_isSame_61 : decode cX6_isSame 61 = .ok (.iaload, 1) := by decide +kernel
theorem dX6_isSame_62 : decode cX6_isSame 62 = .ok (.iastore, 1) := by decide +kernel
theorem dX6_isSame_63 : decode cX6_isSame 63 = .ok (.dup, 1) := by decide +kernel
theorem dX6_isSame_64 : decode cX6_isSame 64 = .ok (.bipush 7, 2) := by decide +kernel
theorem dX6_isSame_66 : decode cX6_isSame 66 = .ok (.aload_n 2, 1) := by decide +kernel
theorem dX6_isSame_67 : decode cX6_isSame 67 = .ok (.iconst 3, 1) := by decide +kernel
theorem dX6_isSame_68 : decode cX6_isSame 68 = .ok (.iaload, 1) := by decide +kernel
theorem dX6_isSame_69 : decode cX6_isSame 69 = .ok (.iastore, 1) := by decide +kernel
theorem dX6_isSame_70 : decode cX6_isSame 70 = .ok (.dup, 1) := by decide +kernel
theorem dX6_isSame_71 : decode cX6_isSame 71 = .ok (.bipush 8, 2) := by decide +kernel
theorem dX6_isSame_73 : decode cX6_isSame 73 = .ok (.aload_n 0, 1) := by decide +kernel
theorem dX6_isSame_74 : decode cX6_isSame 74 = .ok (.getfield 7, 3) := by decide +kernel
theorem dX6_isSame_77 : decode cX6_isSame 77 = .ok (.iastore, 1) := by decide +kernel
theorem dX6_isSame_78 : decode cX6_isSame 78 = .ok (.dup, 1) := by decide +kernel
theorem dX6_isSame_79 : decode cX6_isSame 79 = .ok (.bipush 9, 2) := by decide +kernel
theorem dX6_isSame_81 : decode cX6_isSame 81 = .ok (.aload_n 0, 1) := by decide +kernel
theorem dX6_isSame_82 : decode cX6_isSame 82 = .ok (.getfield 13, 3) := by decide +kernel
theorem dX6_isSame_85 : decode cX6_isSame 85 = .ok (.iastore, 1) := by decide +kernel
theorem dX6_isSame_86 : decode cX6_isSame 86 = .ok (.astore_n 3, 1) := by decide +kernel
theorem dX6_isSame_87 : decode cX6_isSame 87 = .ok (.iconst 0, 1) := by decide +kernel
theorem dX6_isSame_88 : decode cX6_isSame 88 = .ok (.istore 4, 2) := by decide +kernel
theorem dX6_isSame_90 : decode cX6_isSame 90 = .ok (.iload 4, 2) := by decide +kernel
theorem dX6_isSame_92 : decode cX6_isSame 92 = .ok (.bipush 10, 2) := by decide +kernel
theorem dX6_isSame_94 : decode cX6_isSame 94 = .ok (.if_icmp .ge 24, 3) := by decide +kernel
theorem dX6_isSame_97 : decode cX6_isSame 97 = .ok (.aload_n 1, 1) := by decide +kernel
theorem dX6_isSame_98 : decode cX6_isSame 98 = .ok (.iload 4, 2) := by decide +kernel
theorem dX6_isSame_100 : decode cX6_isSame 100 = .ok (.invokevirtual 110, 3) := by decide +kernel
theorem dX6_isSame_103 : decode cX6_isSame 103 = .ok (.aload_n 3, 1) := by decide +kernel
theorem dX6_isSame_104 : decode cX6_isSame 104 = .ok (.iload 4, 2) := by decide +kernel
theorem dX6_isSame_106 : decode cX6_isSame 106 = .ok (.iaload, 1) := by decide +kernel
theorem dX6_isSame_107 : decode cX6_isSame 107 = .ok (.if_icmp .eq 5, 3) := by decide +kernel
theorem dX6_isSame_110 : decode cX6_isSame 110 = .ok (.iconst 0, 1) := by decide +kernel
theorem dX6_isSame_111 : decode cX6_isSame 111 = .ok (.ireturn, 1) := by decide +kernel
theorem dX6_isSame_112 : decode cX6_isSame 112 = .ok (.iinc 4 1, 3) := by decide +kernel
theorem dX6_isSame_115 : decode cX6_isSame 115 = .ok (.goto (-25), 3) := by decide +kernel
theorem dX6_isSame_118 : decode cX6_isSame 118 = .ok (.iconst 0, 1) := by decide +kernel
theorem dX6_isSame_119 : decode cX6_isSame 119 = .ok (.istore 4, 2) := by decide +kernel
theorem dX6_isSame_121 : decode cX6_isSame 121 = .ok (.iload 4, 2) := by decide +kernel
theorem dX6_isSame_123 : decode cX6_isSame 123 = .ok (.aload_n 0, 1) := by decide +kernel
theorem dX6_isSame_124 : decode cX6_isSame 124 = .ok (.getfield 18, 3) := by decide +kernel
theorem dX6_isSame_127 : decode cX6_isSame 127 = .ok (.arraylength, 1) := by decide +kernel
theorem dX6_isSame_128 : decode cX6_isSame 128 = .ok (.if_icmp .ge 111, 3) := by decide +kernel
theorem dX6_isSame_131 : decode cX6_isSame 131 = .ok (.aload_n 0, 1) := by decide +kernel
theorem dX6_isSame_132 : decode cX6_isSame 132 = .ok (.getfield 18, 3) := by decide +kernel
theorem dX6_isSame_135 : decode cX6_isSame 135 = .ok (.iload 4, 2) := by decide +kernel
theorem dX6_isSame_137 : decode cX6_isSame 137 = .ok (.aaload, 1) := by decide +kernel
theorem dX6_isSame_138 : decode cX6_isSame 138 = .ok (.astore 5, 2) := by decide +kernel
theorem dX6_isSame_140 : decode cX6_isSame 140 = .ok (.iconst 5, 1) := by decide +kernel
